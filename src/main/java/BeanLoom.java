import java.util.Arrays;

/**
 * Makes mappers between kinds of beans: it is told types, functions, methods and rules, plans at build() how each
 * property of a target comes from its source, and then maps graphs of objects by what it has planned.
 *
 * <p>All rows are made in the constructor and used again, so that no call makes an object but an exception.
 */
public final class BeanLoom {
    public static final int NONE = -1;

    private static final int MOST_TYPES = 40;
    private static final int MOST_MEMBERS = 8;
    private static final int MOST_METHODS = 16;
    private static final int MOST_FUNCTIONS = 8;
    private static final int MOST_RULES = 24;
    private static final int MOST_OBJECTS = 400;
    private static final int MOST_LISTED = 16;
    private static final int MOST_CELLS = 24;
    private static final int MOST_STEPS = 3;
    private static final int LAST_NAME = 63;

    private static final int BYTE = 0;
    private static final int SHORT = 1;
    private static final int CHAR = 2;
    private static final int INT = 3;
    private static final int LONG = 4;
    private static final int BOOLEAN = 5;
    private static final int DOUBLE = 6;
    private static final int FIRST_BOX = 7;
    private static final int TEXT = 14;
    private static final int FIRST_OWN = 15;
    private static final long NULL = -1L;

    private static final int PATH = 0;
    private static final int CONSTANT = 1;
    private static final int IGNORED = 2;
    private static final int DEFAULT = 3;
    private static final int BY = 4;
    private static final int BECOMES = 5;
    private static final int OTHERS = 6;
    private static final int INVERSE = 7;
    private static final int OF_NULL = 8;

    // What a constant becomes beside the place of another one and NULL.
    private static final int FAILS = -2;
    private static final int UNSAID = -3;

    // A way is one of these times 16 and the number of the function or the method that it takes.
    private static final int WAY = 16;
    private static final int SAME = 0;
    private static final int BY_FUNCTION = 1;
    private static final int BY_METHOD = 2;
    private static final int BY_TABLE = 3;
    private static final int BY_VALUES = 4;
    private static final int NO_CONVERSION = -1;
    private static final int AMBIGUOUS = -2;

    private final Types types;
    private final Model model;
    private final Store store;
    private final Planner planner;
    private final Mapper mapper;
    private boolean built;

    public BeanLoom() {
        types = new Types();
        model = new Model();
        store = new Store(types);
        Ways ways = new Ways(types, model);
        planner = new Planner(types, model, ways);
        mapper = new Mapper(types, model, store, ways);
        built = false;
    }

    public int enumeration(long names, int n) throws IllegalArgumentException, IllegalStateException {
        if (n < 1 || n > MOST_MEMBERS || !Types.areNames(names, n)) {
            throw new IllegalArgumentException("not 1 to 8 different names");
        }
        if (built || types.isFull()) {
            throw new IllegalStateException("built, or no room for a type");
        }
        int type = types.add(Types.ENUM, NONE);
        for (int place = 0; place < n; place++) {
            types.addMember(type, Types.nameIn(names, place), NONE);
        }
        return type;
    }

    public int bean() throws IllegalStateException {
        if (built || types.isFull()) {
            throw new IllegalStateException("built, or no room for a type");
        }
        return types.add(Types.BEAN, NONE);
    }

    public int property(int bean, int name, int type) throws IllegalArgumentException, IllegalStateException {
        if (!types.isBean(bean) || name < 0 || name > LAST_NAME || !types.exists(type)
                || types.placeOf(bean, name) != NONE) {
            throw new IllegalArgumentException("no such bean, name or type, or the name is taken");
        }
        if (built || types.memberCount(bean) >= MOST_MEMBERS || store.size() > 0) {
            throw new IllegalStateException("built, no room for a property, or there are objects");
        }
        return types.addMember(bean, name, type);
    }

    public int list(int of) throws IllegalArgumentException, IllegalStateException {
        if (!types.exists(of) || Basics.isPrimitive(of)) {
            throw new IllegalArgumentException("no such type, or a primitive one");
        }
        int known = types.listOf(of);
        if (known != NONE) {
            return known;
        }
        if (built || types.isFull()) {
            throw new IllegalStateException("built, or no room for a type");
        }
        return types.add(Types.LIST, of);
    }

    public int method(int from, int to) throws IllegalArgumentException, IllegalStateException {
        boolean beans = types.isBean(from) && types.isBean(to);
        boolean enums = types.isEnum(from) && types.isEnum(to);
        if (!beans && !enums) {
            throw new IllegalArgumentException("neither two beans nor two enums");
        }
        if (built || model.methodCount >= MOST_METHODS) {
            throw new IllegalStateException("built, or no room for a method");
        }
        return model.addMethod(from, to);
    }

    public int function(int from, int to, int a, int b) throws IllegalArgumentException, IllegalStateException {
        if (!Basics.isWhole(from) || !Basics.isWhole(to)) {
            throw new IllegalArgumentException("not from whole numbers to whole numbers");
        }
        if (built || model.functionCount >= MOST_FUNCTIONS) {
            throw new IllegalStateException("built, or no room for a function");
        }
        return model.addFunction(from, to, a, b);
    }

    public void rule(int method, int kind, int target, long what)
            throws IllegalArgumentException, IllegalStateException {
        if (!model.hasMethod(method) || kind < PATH || kind > OF_NULL) {
            throw new IllegalArgumentException("no such method or kind");
        }
        if (built || model.methods[method].ruleCount >= MOST_RULES) {
            throw new IllegalStateException("built, or no room for a rule");
        }
        model.methods[method].tell(kind, target, what);
    }

    public int build() throws IllegalArgumentException, IllegalStateException {
        if (built) {
            throw new IllegalStateException("built already");
        }
        planner.planAll();
        if (planner.fault != 0) {
            throw new IllegalArgumentException("there is a diagnosis");
        }
        built = true;
        return model.methodCount;
    }

    public int diagnosis(int what) {
        switch (what) {
            case 0:
                return planner.fault;
            case 1:
                return planner.faultMethod;
            case 2:
                return planner.faultPlace;
            default:
                return NONE;
        }
    }

    public int make(int type, long v) throws IllegalArgumentException, IllegalStateException {
        boolean box = Basics.isBox(type);
        if (!box && type != TEXT && !types.isBean(type) && !types.isList(type)
                || box && !Basics.holds(Basics.kindOf(type), v)) {
            throw new IllegalArgumentException("a type without objects, or no value of the box");
        }
        if (store.isFull()) {
            throw new IllegalStateException("no room for an object");
        }
        int object = types.isBean(type) ? store.createBean(type) : store.create(type);
        if (box) {
            store.append(object, v);
        }
        if (type == TEXT) {
            store.appendBytes(object, v);
        }
        return object;
    }

    public boolean put(int object, int at, long v) {
        int type = store.typeOf(object);
        if (types.isBean(type)) {
            return store.hasPlace(object, at) && store.isValue(types.typeAt(type, at), v)
                    && store.set(object, at, v);
        }
        return types.isList(type) && store.length(object) < MOST_LISTED
                && store.isValue(types.element(type), v) && store.append(object, v);
    }

    public int map(int method, int v)
            throws IllegalArgumentException, IllegalStateException, UnsupportedOperationException {
        if (!model.hasMethod(method) || !store.isValue(model.methods[method].from, v)) {
            throw new IllegalArgumentException("no such method, or no value of its first type");
        }
        if (!built) {
            throw new IllegalStateException("not built");
        }
        int before = store.size();
        long answer = mapper.run(method, v);
        if (mapper.hasFailed()) {
            store.forget(before);
            throw new UnsupportedOperationException("something fails, or too many objects");
        }
        return (int) answer;
    }

    public long get(int object, int at) throws IndexOutOfBoundsException {
        if (!store.hasPlace(object, at)) {
            throw new IndexOutOfBoundsException("no such object or place");
        }
        return store.cell(object, at);
    }

    public int about(int object, int what) throws IndexOutOfBoundsException {
        if (!store.has(object) || what < 0 || what > 1) {
            throw new IndexOutOfBoundsException("no such object or what");
        }
        return what == 0 ? store.typeOf(object) : store.length(object);
    }

    public int count(int what) {
        switch (what) {
            case 0:
                return types.size();
            case 1:
                return model.methodCount;
            case 2:
                return model.functionCount;
            case 3:
                return store.size();
            case 4:
                return built ? 1 : 0;
            default:
                return NONE;
        }
    }

    /** The primitives and boxes, and the casts between their kinds; DOUBLEs are taken by their bits alone. */
    private static final class Basics {
        private static final long LEAST_LONG = -9223372036854775808L;
        private static final long MOST_LONG = 9223372036854775807L;
        private static final long[] LEAST = {-128L, -32768L, 0L, -2147483648L, LEAST_LONG, 0L};
        private static final long[] MOST = {127L, 32767L, 65535L, 2147483647L, MOST_LONG, 1L};
        private static final long INFINITY = 0x7ff0000000000000L;
        private static final int FRACTION_BITS = 52;
        private static final int BIAS = 1023;

        static boolean isPrimitive(int type) {
            return type >= 0 && type < FIRST_BOX;
        }

        static boolean isBox(int type) {
            return type >= FIRST_BOX && type < TEXT;
        }

        static boolean isBasic(int type) {
            return type >= 0 && type < TEXT;
        }

        static int kindOf(int type) {
            return type < FIRST_BOX ? type : type - FIRST_BOX;
        }

        static boolean isWhole(int type) {
            return type >= 0 && type < TEXT && type != DOUBLE && type != FIRST_BOX + DOUBLE;
        }

        static boolean isNull(int type, long v) {
            return type >= FIRST_BOX && v == NULL;
        }

        static long emptyOf(int type) {
            return type < FIRST_BOX ? 0L : NULL;
        }

        static boolean holds(int kind, long v) {
            if (kind == DOUBLE) {
                return (v & MOST_LONG) <= INFINITY;
            }
            return kind >= 0 && kind < LEAST.length && v >= LEAST[kind] && v <= MOST[kind];
        }

        static long cast(int from, int to, long v) {
            if (from == DOUBLE && to == DOUBLE) {
                return v;
            }
            long x = from == DOUBLE ? wholeOf(v) : v;
            if (from == DOUBLE && to != LONG) {
                // The narrow kinds are reached over INT, so its ends come before their lowest bits.
                x = Math.max(LEAST[INT], Math.min(MOST[INT], x));
            }
            switch (to) {
                case BYTE:
                    return (byte) x;
                case SHORT:
                    return (short) x;
                case CHAR:
                    return x & 65535L;
                case INT:
                    return (int) x;
                case BOOLEAN:
                    return x & 1L;
                case DOUBLE:
                    return nearestDouble(x);
                default:
                    return x;
            }
        }

        private static long wholeOf(long bits) {
            int exponent = (int) (bits >> FRACTION_BITS & 2047L) - BIAS;
            if (exponent < 0) {
                return 0L;
            }
            if (exponent > 62) {
                return bits < 0 ? LEAST_LONG : MOST_LONG;
            }
            long one = 1L << FRACTION_BITS;
            long digits = bits & one - 1L | one;
            long whole = exponent < FRACTION_BITS
                    ? digits >> FRACTION_BITS - exponent : digits << exponent - FRACTION_BITS;
            return bits < 0 ? -whole : whole;
        }

        private static long nearestDouble(long x) {
            if (x == 0L) {
                return 0L;
            }
            // The least long stays as it is, and is right if its bits are read without a sign.
            long size = x < 0 ? -x : x;
            int top = 63;
            while (top > 0 && size >>> top == 0L) {
                top--;
            }
            long digits = top > FRACTION_BITS ? size : size << FRACTION_BITS - top;
            if (top > FRACTION_BITS) {
                int shift = top - FRACTION_BITS;
                long lost = size & (1L << shift) - 1L;
                long half = 1L << shift - 1;
                digits = size >>> shift;
                boolean up = lost > half || lost == half && (digits & 1L) == 1L;
                digits += up ? 1L : 0L;
            }
            // The leading digit, and a carry of the rounding, are added into the exponent.
            long bits = ((long) (top + BIAS - 1) << FRACTION_BITS) + digits;
            return x < 0 ? bits | LEAST_LONG : bits;
        }
    }

    /** The types, with the constants of the enums, the properties of the beans and what the lists are of. */
    private static final class Types {
        static final int ENUM = 1;
        static final int BEAN = 2;
        static final int LIST = 3;

        private final int[] forms = new int[MOST_TYPES];
        private final int[] elements = new int[MOST_TYPES];
        private final int[] memberCounts = new int[MOST_TYPES];
        private final int[] names = new int[MOST_TYPES * MOST_MEMBERS];
        private final int[] memberTypes = new int[MOST_TYPES * MOST_MEMBERS];
        private int size = FIRST_OWN;

        static int nameIn(long names, int place) {
            return (int) (names >>> 8 * place) & 255;
        }

        static boolean areNames(long names, int n) {
            for (int i = 0; i < n; i++) {
                int name = nameIn(names, i);
                if (name > LAST_NAME) {
                    return false;
                }
                for (int j = 0; j < i; j++) {
                    if (nameIn(names, j) == name) {
                        return false;
                    }
                }
            }
            return true;
        }

        int size() {
            return size;
        }

        boolean isFull() {
            return size >= MOST_TYPES;
        }

        boolean exists(int type) {
            return type >= 0 && type < size;
        }

        boolean isEnum(int type) {
            return type >= FIRST_OWN && type < size && forms[type] == ENUM;
        }

        boolean isBean(int type) {
            return type >= FIRST_OWN && type < size && forms[type] == BEAN;
        }

        boolean isList(int type) {
            return type >= FIRST_OWN && type < size && forms[type] == LIST;
        }

        int add(int form, int element) {
            if (size >= MOST_TYPES) {
                return NONE;
            }
            int type = size;
            size++;
            forms[type] = form;
            elements[type] = element;
            return type;
        }

        int addMember(int type, int name, int memberType) {
            if (type < 0 || type >= size || memberCounts[type] >= MOST_MEMBERS) {
                return NONE;
            }
            int place = memberCounts[type];
            memberCounts[type]++;
            names[type * MOST_MEMBERS + place] = name;
            memberTypes[type * MOST_MEMBERS + place] = memberType;
            return place;
        }

        int listOf(int element) {
            for (int type = FIRST_OWN; type < size; type++) {
                if (forms[type] == LIST && elements[type] == element) {
                    return type;
                }
            }
            return NONE;
        }

        int element(int type) {
            return type >= 0 && type < size ? elements[type] : NONE;
        }

        int memberCount(int type) {
            return type >= 0 && type < size ? memberCounts[type] : 0;
        }

        int nameAt(int type, int place) {
            boolean there = type >= 0 && type < size && place >= 0 && place < memberCounts[type];
            return there ? names[type * MOST_MEMBERS + place] : NONE;
        }

        int typeAt(int type, int place) {
            boolean there = type >= 0 && type < size && place >= 0 && place < memberCounts[type];
            return there ? memberTypes[type * MOST_MEMBERS + place] : NONE;
        }

        int placeOf(int type, long name) {
            int most = type >= 0 && type < size ? memberCounts[type] : 0;
            for (int place = 0; place < most; place++) {
                if (names[type * MOST_MEMBERS + place] == name) {
                    return place;
                }
            }
            return NONE;
        }
    }

    /** The objects: each has a row of cells for its values or characters. */
    private static final class Store {
        private final Types types;
        private final int[] objectTypes = new int[MOST_OBJECTS];
        private final int[] lengths = new int[MOST_OBJECTS];
        private final long[] cells = new long[MOST_OBJECTS * MOST_CELLS];
        private int size;

        Store(Types types) {
            this.types = types;
        }

        int size() {
            return size;
        }

        boolean isFull() {
            return size >= MOST_OBJECTS;
        }

        void forget(int from) {
            size = from;
        }

        boolean has(long object) {
            return object >= 0 && object < size;
        }

        int typeOf(int object) {
            return object >= 0 && object < size ? objectTypes[object] : NONE;
        }

        int length(int object) {
            return object >= 0 && object < size ? lengths[object] : 0;
        }

        boolean hasPlace(int object, int place) {
            return object >= 0 && object < size && place >= 0 && place < lengths[object];
        }

        long cell(int object, int place) {
            boolean there = object >= 0 && object < size && place >= 0 && place < lengths[object];
            return there ? cells[object * MOST_CELLS + place] : 0L;
        }

        boolean set(int object, int place, long v) {
            boolean there = object >= 0 && object < size && place >= 0 && place < lengths[object];
            if (there) {
                cells[object * MOST_CELLS + place] = v;
            }
            return there;
        }

        boolean append(int object, long v) {
            if (object < 0 || object >= size || lengths[object] >= MOST_CELLS) {
                return false;
            }
            cells[object * MOST_CELLS + lengths[object]] = v;
            lengths[object]++;
            return true;
        }

        void appendBytes(int object, long bytes) {
            for (int i = 0; i < 8; i++) {
                long sign = bytes >>> 8 * i & 255L;
                if (sign == 0L) {
                    return;
                }
                append(object, sign);
            }
        }

        int create(int type) {
            if (size >= MOST_OBJECTS) {
                return NONE;
            }
            int object = size;
            size++;
            objectTypes[object] = type;
            lengths[object] = 0;
            return object;
        }

        int createBean(int type) {
            int object = create(type);
            int properties = types.memberCount(type);
            for (int place = 0; place < properties; place++) {
                append(object, Basics.emptyOf(types.typeAt(type, place)));
            }
            return object;
        }

        boolean isValue(int type, long v) {
            if (Basics.isPrimitive(type)) {
                return Basics.holds(type, v);
            }
            if (v == NULL) {
                return true;
            }
            if (types.isEnum(type)) {
                return v >= 0 && v < types.memberCount(type);
            }
            return has(v) && objectTypes[(int) v] == type;
        }
    }

    /** A function from one kind of whole numbers to another one. */
    private static final class Function {
        int from;
        int to;
        int a;
        int b;
        boolean named;
    }

    /** Where one property's value comes from, as build() has planned it. */
    private static final class Plan {
        int origin;
        long constant;
        int steps;
        final int[] places = new int[MOST_STEPS];
        int sourceType;
        int way;
        boolean hasDefault;
        long fallback;
        int fallbackWay;

        /** Finds the places that a path, told in bytes, goes through from a bean on; false if it can't go. */
        boolean trace(Types types, int bean, long path) {
            int type = bean;
            steps = 0;
            for (int i = 0; i < MOST_STEPS; i++) {
                int name = Types.nameIn(path, i) - 1;
                if (name < 0) {
                    break;
                }
                int place = types.isBean(type) ? types.placeOf(type, name) : NONE;
                if (place == NONE) {
                    return false;
                }
                places[i] = place;
                steps++;
                type = types.typeAt(type, place);
            }
            sourceType = type;
            return steps > 0;
        }
    }

    /** A method with its rules, as told, and its plans. */
    private static final class Method {
        int from;
        int to;
        int ruleCount;
        final int[] kinds = new int[MOST_RULES];
        final int[] targets = new int[MOST_RULES];
        final long[] whats = new long[MOST_RULES];
        int inverse;
        boolean makesOfNull;
        final Plan[] plans = new Plan[MOST_MEMBERS];
        final int[] becomes = new int[MOST_MEMBERS];

        Method() {
            for (int place = 0; place < MOST_MEMBERS; place++) {
                plans[place] = new Plan();
            }
        }

        void tell(int kind, int target, long what) {
            if (ruleCount >= MOST_RULES) {
                return;
            }
            kinds[ruleCount] = kind;
            targets[ruleCount] = target;
            whats[ruleCount] = what;
            ruleCount++;
        }

        int latest(int kind) {
            for (int rule = ruleCount - 1; rule >= 0; rule--) {
                if (kinds[rule] == kind) {
                    return rule;
                }
            }
            return NONE;
        }

        int first(int kind, int target) {
            for (int rule = 0; rule < ruleCount; rule++) {
                if (kinds[rule] == kind && targets[rule] == target) {
                    return rule;
                }
            }
            return NONE;
        }

        /** Whether a rule's target has had one before that says the same. */
        boolean repeats(int rule) {
            for (int earlier = 0; earlier < rule; earlier++) {
                boolean alike = kinds[earlier] == kinds[rule] || kinds[earlier] <= IGNORED && kinds[rule] <= IGNORED;
                if (alike && targets[earlier] == targets[rule]) {
                    return true;
                }
            }
            return false;
        }
    }

    /** The functions and methods. */
    private static final class Model {
        final Function[] functions = new Function[MOST_FUNCTIONS];
        final Method[] methods = new Method[MOST_METHODS];
        int functionCount;
        int methodCount;

        Model() {
            for (int f = 0; f < MOST_FUNCTIONS; f++) {
                functions[f] = new Function();
            }
            for (int m = 0; m < MOST_METHODS; m++) {
                methods[m] = new Method();
            }
        }

        boolean hasMethod(long method) {
            return method >= 0 && method < methodCount;
        }

        boolean hasFunction(long function) {
            return function >= 0 && function < functionCount;
        }

        int addMethod(int from, int to) {
            if (methodCount >= MOST_METHODS) {
                return NONE;
            }
            int number = methodCount;
            methodCount++;
            methods[number].from = from;
            methods[number].to = to;
            return number;
        }

        int addFunction(int from, int to, int a, int b) {
            if (functionCount >= MOST_FUNCTIONS) {
                return NONE;
            }
            int number = functionCount;
            functionCount++;
            Function function = functions[number];
            function.from = from;
            function.to = to;
            function.a = a;
            function.b = b;
            return number;
        }

        /** Every rule counts here, so that the order in which functions and rules are told does not matter. */
        void nameFunctions() {
            for (int f = 0; f < functionCount; f++) {
                functions[f].named = false;
            }
            for (int m = 0; m < methodCount; m++) {
                Method method = methods[m];
                for (int rule = 0; rule < method.ruleCount; rule++) {
                    if (method.kinds[rule] == BY && hasFunction(method.whats[rule])) {
                        functions[(int) method.whats[rule]].named = true;
                    }
                }
            }
        }
    }

    /** Finds how a value comes from one type to another one. */
    private static final class Ways {
        private final Types types;
        private final Model model;
        // The ways that lists' values take are found with those of the lists, and looked up when they are mapped.
        private final int[] found = new int[MOST_TYPES * MOST_TYPES];

        Ways(Types types, Model model) {
            this.types = types;
            this.model = model;
        }

        int known(int from, int to) {
            return types.exists(from) && types.exists(to) ? found[from * MOST_TYPES + to] : NO_CONVERSION;
        }

        /** The way, or NO_CONVERSION or AMBIGUOUS. */
        int find(int from, int to) {
            int a = from;
            int b = to;
            for (int depth = 0; depth < MOST_TYPES; depth++) {
                int way = a == b ? SAME * WAY : functionWay(a, b, false);
                way = way == NO_CONVERSION ? methodWay(a, b) : way;
                way = way == NO_CONVERSION && converts(a, b) ? BY_TABLE * WAY : way;
                way = way == NO_CONVERSION ? functionWay(a, b, true) : way;
                boolean inner = way == NO_CONVERSION && types.isList(a) && types.isList(b);
                if (types.exists(a) && types.exists(b)) {
                    found[a * MOST_TYPES + b] = inner ? BY_VALUES * WAY : way;
                }
                if (!inner) {
                    return depth == 0 || way < 0 ? way : BY_VALUES * WAY;
                }
                a = types.element(a);
                b = types.element(b);
            }
            return NO_CONVERSION;
        }

        private int functionWay(int a, int b, boolean overTable) {
            int way = NO_CONVERSION;
            for (int f = 0; f < model.functionCount; f++) {
                Function function = model.functions[f];
                boolean starts = overTable ? converts(a, function.from) : a == function.from;
                if (!function.named && function.to == b && starts) {
                    if (way != NO_CONVERSION) {
                        return AMBIGUOUS;
                    }
                    way = BY_FUNCTION * WAY + f;
                }
            }
            return way;
        }

        private int methodWay(int a, int b) {
            int way = NO_CONVERSION;
            for (int m = 0; m < model.methodCount; m++) {
                if (model.methods[m].from == a && model.methods[m].to == b) {
                    if (way != NO_CONVERSION) {
                        return AMBIGUOUS;
                    }
                    way = BY_METHOD * WAY + m;
                }
            }
            return way;
        }

        /** Whether the table has a row for these types. */
        private boolean converts(int a, int b) {
            if (Basics.isBasic(a) && Basics.isBasic(b)) {
                int from = Basics.kindOf(a);
                int to = Basics.kindOf(b);
                return from == to || from != BOOLEAN && to != BOOLEAN;
            }
            if (b == TEXT) {
                return Basics.isWhole(a) || types.isEnum(a);
            }
            return a == TEXT && (Basics.isWhole(b) || types.isEnum(b));
        }
    }

    /** Checks the methods and their rules, and plans them; keeps the first fault that it finds. */
    private static final class Planner {
        private final Types types;
        private final Model model;
        private final Ways ways;
        private final Plan trial = new Plan();
        int fault;
        int faultMethod = NONE;
        int faultPlace = NONE;

        Planner(Types types, Model model, Ways ways) {
            this.types = types;
            this.model = model;
            this.ways = ways;
        }

        void planAll() {
            model.nameFunctions();
            fault = 0;
            faultMethod = NONE;
            faultPlace = NONE;
            for (int m = 0; m < model.methodCount && fault == 0; m++) {
                faultMethod = m;
                planMethod(model.methods[m]);
            }
            if (fault == 0) {
                faultMethod = NONE;
            }
        }

        private void planMethod(Method method) {
            if (!planInverse(method)) {
                fault = 1;
                return;
            }
            for (int rule = 0; rule < method.ruleCount && fault == 0; rule++) {
                note(ruleFault(method, rule), rule);
            }
            int nulls = method.latest(OF_NULL);
            method.makesOfNull = nulls != NONE && method.whats[nulls] == 1L;
            boolean beans = types.isBean(method.to);
            int members = types.memberCount(beans ? method.to : method.from);
            for (int place = 0; place < members && fault == 0; place++) {
                note(beans ? planProperty(method, place) : planConstant(method, place), place);
                if (beans && fault == 0) {
                    note(planDefault(method, place), place);
                }
            }
        }

        private void note(int newFault, int place) {
            if (newFault != 0) {
                fault = newFault;
                faultPlace = place;
            }
        }

        private boolean planInverse(Method method) {
            method.inverse = NONE;
            int rule = method.latest(INVERSE);
            if (rule == NONE) {
                return true;
            }
            long what = method.whats[rule];
            if (!model.hasMethod(what)) {
                return false;
            }
            Method other = model.methods[(int) what];
            if (other.from != method.to || other.to != method.from || other.latest(INVERSE) != NONE) {
                return false;
            }
            method.inverse = (int) what;
            return true;
        }

        private int ruleFault(Method method, int rule) {
            int kind = method.kinds[rule];
            int target = method.targets[rule];
            long what = method.whats[rule];
            boolean beans = types.isBean(method.to);
            if (kind <= BECOMES) {
                if (method.repeats(rule)) {
                    return 2;
                }
                boolean ofBeans = kind != BECOMES;
                int owner = ofBeans ? method.to : method.from;
                if (ofBeans != beans || types.placeOf(owner, target) == NONE) {
                    return 3;
                }
            }
            boolean good = true;
            switch (kind) {
                case PATH:
                    good = trial.trace(types, method.from, what);
                    break;
                case BY:
                    good = model.hasFunction(what);
                    break;
                case BECOMES:
                    good = what == NULL || types.placeOf(method.to, what) != NONE;
                    break;
                case OTHERS:
                    good = !beans && (what == NULL || what == FAILS || types.placeOf(method.to, what) != NONE);
                    break;
                case OF_NULL:
                    good = beans;
                    break;
                default:
                    break;
            }
            return good ? 0 : 4;
        }

        private int planProperty(Method method, int place) {
            Plan plan = method.plans[place];
            int name = types.nameAt(method.to, place);
            int type = types.typeAt(method.to, place);
            if (method.first(IGNORED, name) != NONE) {
                plan.origin = IGNORED;
                return 0;
            }
            int constant = method.first(CONSTANT, name);
            if (constant != NONE) {
                plan.origin = CONSTANT;
                plan.constant = method.whats[constant];
                plan.way = ways.find(LONG, type);
                return faultOf(plan.way);
            }
            plan.origin = PATH;
            if (!plan.trace(types, method.from, pathTo(method, name))) {
                return 5;
            }
            int by = method.first(BY, name);
            plan.way = by == NONE ? ways.find(plan.sourceType, type) : wayBy(method.whats[by], plan.sourceType, type);
            return faultOf(plan.way);
        }

        private int planDefault(Method method, int place) {
            Plan plan = method.plans[place];
            int rule = method.first(DEFAULT, types.nameAt(method.to, place));
            plan.hasDefault = plan.origin == PATH && rule != NONE;
            if (!plan.hasDefault) {
                return 0;
            }
            plan.fallback = method.whats[rule];
            plan.fallbackWay = ways.find(LONG, types.typeAt(method.to, place));
            return faultOf(plan.fallbackWay);
        }

        private int wayBy(long number, int from, int to) {
            if (!model.hasFunction(number)) {
                return NO_CONVERSION;
            }
            Function function = model.functions[(int) number];
            return function.from == from && function.to == to ? BY_FUNCTION * WAY + (int) number : NO_CONVERSION;
        }

        private int faultOf(int way) {
            return way == NO_CONVERSION ? 6 : way == AMBIGUOUS ? 7 : 0;
        }

        /** The path, told in bytes, to where a property comes from. */
        private long pathTo(Method method, int name) {
            int own = method.first(PATH, name);
            if (own != NONE) {
                return method.whats[own];
            }
            if (model.hasMethod(method.inverse)) {
                Method other = model.methods[method.inverse];
                for (int rule = 0; rule < other.ruleCount; rule++) {
                    // One name: its byte, and a 0 behind it.
                    if (other.kinds[rule] == PATH && (other.whats[rule] & 65535L) == name + 1) {
                        int target = other.targets[rule];
                        return (types.placeOf(method.from, target) != NONE ? target : name) + 1L;
                    }
                }
            }
            return name + 1L;
        }

        private int planConstant(Method method, int place) {
            long name = becoming(method, types.nameAt(method.from, place));
            if (name == UNSAID) {
                return 5;
            }
            method.becomes[place] = name >= 0 ? types.placeOf(method.to, name) : (int) name;
            return 0;
        }

        /** The name that a constant's name becomes, or NULL, FAILS or UNSAID. */
        private long becoming(Method method, int name) {
            int own = method.first(BECOMES, name);
            if (own != NONE) {
                return method.whats[own];
            }
            int back = inverseConstant(method, name);
            if (back != NONE) {
                return back;
            }
            if (types.placeOf(method.to, name) != NONE) {
                return name;
            }
            int others = method.latest(OTHERS);
            return others == NONE ? UNSAID : method.whats[others];
        }

        private int inverseConstant(Method method, int name) {
            if (!model.hasMethod(method.inverse)) {
                return NONE;
            }
            Method other = model.methods[method.inverse];
            for (int rule = 0; rule < other.ruleCount; rule++) {
                if (other.kinds[rule] == BECOMES && other.whats[rule] == name) {
                    int target = other.targets[rule];
                    return types.placeOf(method.to, target) != NONE ? target : NONE;
                }
            }
            return NONE;
        }
    }

    /** Converts single values by the table and by functions, and makes their boxes and texts. */
    private static final class Converter {
        private final Types types;
        private final Store store;
        boolean failed;

        Converter(Types types, Store store) {
            this.types = types;
            this.store = store;
        }

        long byTable(int from, int to, long v) {
            if (Basics.isNull(from, v)) {
                return Basics.emptyOf(to);
            }
            if (to == TEXT) {
                int text = created(TEXT);
                if (types.isEnum(from)) {
                    writeNumber(text, 'n', types.nameAt(from, (int) v));
                } else {
                    writePlain(text, Basics.kindOf(from), unboxed(from, v));
                }
                return text;
            }
            if (types.isEnum(to)) {
                return constantOf(to, (int) v);
            }
            return boxed(to, plain(from, v, Basics.kindOf(to)));
        }

        long byFunction(Function function, int from, long v) {
            if (Basics.isNull(from, v)) {
                return Basics.emptyOf(function.to);
            }
            long x = plain(from, v, Basics.kindOf(function.from));
            return boxed(function.to, Basics.cast(LONG, Basics.kindOf(function.to), x * function.a + function.b));
        }

        int created(int type) {
            int object = store.create(type);
            failed = failed || object == NONE;
            return object;
        }

        private long unboxed(int type, long v) {
            return Basics.isPrimitive(type) ? v : store.cell((int) v, 0);
        }

        private long boxed(int type, long x) {
            if (Basics.isPrimitive(type)) {
                return x;
            }
            int box = created(type);
            store.append(box, x);
            return box;
        }

        private long plain(int from, long v, int kind) {
            if (from != TEXT) {
                return Basics.cast(Basics.kindOf(from), kind, unboxed(from, v));
            }
            int text = (int) v;
            if (kind == BOOLEAN) {
                return isTrue(text) ? 1L : 0L;
            }
            if (kind == CHAR) {
                failed = failed || store.length(text) != 1;
                return store.cell(text, 0);
            }
            return number(text, kind);
        }

        private boolean isTrue(int text) {
            return store.length(text) == 4 && store.cell(text, 0) == 't' && store.cell(text, 1) == 'r'
                    && store.cell(text, 2) == 'u' && store.cell(text, 3) == 'e';
        }

        /** The number that a text tells, gathered below 0, where the range reaches one farther. */
        private long number(int text, int kind) {
            int length = store.length(text);
            boolean minus = store.cell(text, 0) == '-';
            int start = minus ? 1 : 0;
            boolean good = start < length;
            long below = 0L;
            for (int place = start; good && place < length; place++) {
                long digit = store.cell(text, place) - '0';
                good = digit >= 0 && digit <= 9 && below >= (Basics.LEAST_LONG + digit) / 10L;
                below = good ? below * 10L - digit : 0L;
            }
            good = good && (minus || below != Basics.LEAST_LONG);
            long value = minus ? below : -below;
            if (!good || !Basics.holds(kind, value)) {
                failed = true;
                return 0L;
            }
            return value;
        }

        private void writePlain(int text, int kind, long x) {
            if (kind == BOOLEAN) {
                writeWord(text, x == 1L ? "true" : "false");
            } else if (kind == CHAR) {
                store.append(text, x);
            } else {
                writeNumber(text, x < 0 ? '-' : (char) 0, x);
            }
        }

        private void writeWord(int text, String signs) {
            for (int i = 0; i < signs.length(); i++) {
                store.append(text, signs.charAt(i));
            }
        }

        /** Writes the digits of a number without its sign, with a character ahead if it is not 0. */
        private void writeNumber(int text, char ahead, long x) {
            if (ahead != 0) {
                store.append(text, ahead);
            }
            // Gathered below 0, for the least long has no positive one.
            long below = x < 0 ? x : -x;
            int digits = 0;
            for (long rest = below; digits == 0 || rest != 0L && digits < MOST_CELLS; rest /= 10L) {
                store.append(text, '0');
                digits++;
            }
            int last = store.length(text) - 1;
            for (int i = 0; i < digits; i++) {
                store.set(text, last - i, '0' - below % 10L);
                below /= 10L;
            }
        }

        private long constantOf(int type, int text) {
            int constants = types.memberCount(type);
            for (int place = 0; place < constants; place++) {
                if (isNameText(text, types.nameAt(type, place))) {
                    return place;
                }
            }
            failed = true;
            return NULL;
        }

        private boolean isNameText(int text, int name) {
            if (store.cell(text, 0) != 'n') {
                return false;
            }
            if (name < 10) {
                return store.length(text) == 2 && store.cell(text, 1) == '0' + name;
            }
            return store.length(text) == 3 && store.cell(text, 1) == '0' + name / 10
                    && store.cell(text, 2) == '0' + name % 10;
        }
    }

    /** Maps a graph of objects. What is begun and not yet full stands on a pile, for a graph can be too deep to recur. */
    private static final class Mapper {
        // Each step goes on with one of at most 400 new objects, by one of at most 16 values or by its end.
        private static final int MOST_TURNS = MOST_OBJECTS * (MOST_LISTED + 1);

        private final Types types;
        private final Model model;
        private final Store store;
        private final Ways ways;
        private final Converter converter;
        private final int[] taken = new int[MOST_METHODS * MOST_OBJECTS];
        private final int[] sources = new int[MOST_OBJECTS];
        private final int[] targets = new int[MOST_OBJECTS];
        private final int[] nexts = new int[MOST_OBJECTS];
        private final int[] methods = new int[MOST_OBJECTS];
        private int height;

        Mapper(Types types, Model model, Store store, Ways ways) {
            this.types = types;
            this.model = model;
            this.store = store;
            this.ways = ways;
            converter = new Converter(types, store);
        }

        boolean hasFailed() {
            return converter.failed;
        }

        long run(int method, long v) {
            converter.failed = false;
            height = 0;
            Arrays.fill(taken, NONE);
            long answer = byMethod(method, v);
            for (int turn = 0; turn < MOST_TURNS && height > 0 && !converter.failed; turn++) {
                int top = height - 1;
                int place = nexts[top];
                nexts[top]++;
                if (place >= store.length(targets[top]) && methods[top] != NONE
                        || place >= store.length(sources[top]) && methods[top] == NONE) {
                    height--;
                } else if (methods[top] == NONE) {
                    fillList(sources[top], targets[top], place);
                } else {
                    fillProperty(model.methods[methods[top]], sources[top], targets[top], place);
                }
            }
            return answer;
        }

        private void begin(int method, int source, int target) {
            if (height < 0 || height >= MOST_OBJECTS) {
                converter.failed = true;
                return;
            }
            methods[height] = method;
            sources[height] = source;
            targets[height] = target;
            nexts[height] = 0;
            height++;
        }

        private void fillList(int source, int target, int place) {
            int from = types.element(store.typeOf(source));
            int to = types.element(store.typeOf(target));
            store.append(target, become(ways.known(from, to), from, to, store.cell(source, place)));
        }

        private void fillProperty(Method method, int source, int target, int place) {
            if (place < 0 || place >= MOST_MEMBERS) {
                return;
            }
            Plan plan = method.plans[place];
            int type = types.typeAt(method.to, place);
            if (plan.origin == CONSTANT) {
                store.set(target, place, become(plan.way, LONG, type, plan.constant));
            }
            if (plan.origin != PATH) {
                return;
            }
            long bean = source;
            int last = plan.steps - 1;
            for (int i = 0; i < last && i < MOST_STEPS && bean != NULL; i++) {
                bean = store.cell((int) bean, plan.places[i]);
            }
            boolean broken = bean == NULL || last < 0 || last >= MOST_STEPS;
            long v = broken ? NULL : store.cell((int) bean, plan.places[last]);
            if (plan.hasDefault && (broken || Basics.isNull(plan.sourceType, v))) {
                store.set(target, place, become(plan.fallbackWay, LONG, type, plan.fallback));
            } else if (!broken) {
                store.set(target, place, become(plan.way, plan.sourceType, type, v));
            }
        }

        private long become(int way, int from, int to, long v) {
            if (way < 0) {
                converter.failed = true;
                return NULL;
            }
            int number = way % WAY;
            switch (way / WAY) {
                case BY_FUNCTION:
                    return number < MOST_FUNCTIONS ? converter.byFunction(model.functions[number], from, v) : NULL;
                case BY_METHOD:
                    return byMethod(number, v);
                case BY_TABLE:
                    return converter.byTable(from, to, v);
                case BY_VALUES:
                    return beginList(to, v);
                default:
                    return v;
            }
        }

        private long beginList(int to, long v) {
            if (v == NULL) {
                return NULL;
            }
            int target = converter.created(to);
            if (target != NONE) {
                begin(NONE, (int) v, target);
            }
            return target;
        }

        private long byMethod(int number, long v) {
            if (!model.hasMethod(number)) {
                return NULL;
            }
            Method method = model.methods[number];
            return types.isBean(method.to) ? beanOf(number, method, v) : constantOf(method, v);
        }

        private long constantOf(Method method, long v) {
            if (v < 0 || v >= MOST_MEMBERS) {
                return NULL;
            }
            int place = method.becomes[(int) v];
            if (place == FAILS) {
                converter.failed = true;
            }
            return place;
        }

        private long beanOf(int number, Method method, long v) {
            if (v == NULL && !method.makesOfNull) {
                return NULL;
            }
            int at = number * MOST_OBJECTS + (int) v;
            if (v >= 0 && v < MOST_OBJECTS && taken[at] != NONE) {
                return taken[at];
            }
            int target = store.createBean(method.to);
            if (target == NONE) {
                converter.failed = true;
                return NULL;
            }
            // NULL is no source that could be met again: it becomes a new bean each time.
            if (v >= 0 && v < MOST_OBJECTS) {
                taken[at] = target;
                begin(number, (int) v, target);
            }
            return target;
        }
    }
}
