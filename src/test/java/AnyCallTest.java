import java.util.List;
import java.util.Random;

/**
 * LANGUAGE.md, rules 6 and 7: whatever the arguments and the state, a call throws just what the face tells of it. Random
 * runs of calls, of which most arguments stand at the edge of something. Arguments: first seed, how many.
 */
public final class AnyCallTest {
    private static final int[] EDGES = {-1, 0, 1, 2, 3, 6, 7, 8, 9, 13, 14, 15, 16, 17, 18, 19, 20, 23, 24, 39, 40, 63, 64,
        399, 400, 401, -2, -3, 127, 255, 256, 9599, 9600, 65535, Integer.MAX_VALUE, Integer.MIN_VALUE};
    // Some less than the 512 that a loom stands for: main() has its calls too.
    private static final int MOST_CALLS = 500;
    private static final Class<?> ARGUMENT = IllegalArgumentException.class;
    private static final Class<?> STATE = IllegalStateException.class;
    private static final Class<?> UNSUPPORTED = UnsupportedOperationException.class;
    private static final Class<?> BOUNDS = IndexOutOfBoundsException.class;
    private static final List<List<Class<?>>> TOLD = List.of(List.of(ARGUMENT, STATE), List.of(STATE),
            List.of(ARGUMENT, STATE), List.of(ARGUMENT, STATE), List.of(ARGUMENT, STATE), List.of(ARGUMENT, STATE),
            List.of(ARGUMENT, STATE), List.of(ARGUMENT, STATE), List.of(), List.of(ARGUMENT, STATE), List.of(),
            List.of(ARGUMENT, STATE, UNSUPPORTED), List.of(BOUNDS), List.of(BOUNDS), List.of());

    private final Random random;
    private final BeanLoom loom = new BeanLoom();

    private AnyCallTest(long seed) {
        random = new Random(seed);
    }

    private int some() {
        int turn = random.nextInt(20);
        return turn < 12 ? random.nextInt(4) + (turn < 6 ? 15 : 0)
                : turn < 19 ? EDGES[random.nextInt(EDGES.length)] : random.nextInt();
    }

    private long more() {
        int turn = random.nextInt(20);
        return turn < 14 ? some() : turn < 16 ? 0x0706050403020100L : turn < 18 ? (long) some() << 32 | random.nextInt(9)
                : turn < 19 ? random.nextLong() : turn % 2 == 0 ? Long.MIN_VALUE : Long.MAX_VALUE;
    }

    private void call(int what) {
        switch (what) {
            case 0:
                loom.enumeration(random.nextInt(3) > 0 ? 0x0706050403020100L : more(), some());
                break;
            case 1:
                loom.bean();
                break;
            case 2:
                loom.property(some(), some(), some());
                break;
            case 3:
                loom.list(some());
                break;
            case 4:
                loom.method(some(), some());
                break;
            case 5:
                loom.function(some(), some(), some(), some());
                break;
            case 6:
                loom.rule(some(), random.nextInt(9), some(), more());
                break;
            case 7:
                loom.build();
                break;
            case 8:
                loom.diagnosis(some());
                break;
            case 9:
                loom.make(some(), more());
                break;
            case 10:
                loom.put(some(), some(), more());
                break;
            case 11:
                loom.map(some(), some());
                break;
            case 12:
                loom.get(some(), some());
                break;
            case 13:
                loom.about(some(), some());
                break;
            default:
                loom.count(some());
                break;
        }
    }

    /** A run tells for a while, and then maps; the name of a call that threw something else, or none. */
    private String run() {
        int telling = random.nextInt(200);
        boolean rules = random.nextBoolean();
        for (int turn = 0; turn < MOST_CALLS; turn++) {
            int what = turn < telling ? random.nextInt(15) : turn == telling ? 7 : 8 + random.nextInt(7);
            what = what == 7 && turn < telling && random.nextInt(40) > 0 ? 6 : what;
            what = what == 6 && !rules ? 4 : what;
            try {
                call(what);
            } catch (RuntimeException | Error e) {
                if (!TOLD.get(what).contains(e.getClass())) {
                    return "call " + turn + ", of kind " + what + ", throws " + e;
                }
            }
        }
        return "";
    }

    public static void main(String[] args) {
        long first = args.length > 0 ? Long.parseLong(args[0]) : 1;
        int many = args.length > 1 ? Integer.parseInt(args[1]) : 4000;
        int built = 0;
        int mapped = 0;
        for (long seed = first; seed < first + many; seed++) {
            AnyCallTest test = new AnyCallTest(seed);
            String wrong = test.run();
            if (!wrong.isEmpty()) {
                System.out.println("seed " + seed + ": " + wrong);
                System.exit(1);
            }
            built += test.loom.count(4);
            mapped += test.loom.count(4) == 1 && test.loom.count(1) > 0 ? 1 : 0;
        }
        System.out.println(many + " runs, " + built + " built, " + mapped + " of them with methods");
        if (mapped < many / 10) {
            System.out.println("too few of them map");
            System.exit(1);
        }
    }
}
