import java.util.Arrays;
import java.util.Random;

/**
 * Long runs of calls, each answer compared with that of a plain model of the document. The seeds are
 * fixed, so every test run makes the same calls.
 */
final class ModelTest {
    private static final int RUNS = 3000;
    private static final int CALLS = 512;
    private static final int KINDS_OF_CALL = 18;
    private static final int[] ODD = {
        Integer.MIN_VALUE, Integer.MIN_VALUE + 1, -65536, -2, -1, 0, 1, 2, 5, 7, 8, 15, 16, 23, 24, 25, 63, 64, 65,
        255, 256, 257, 65535, 65536, Integer.MAX_VALUE - 1, Integer.MAX_VALUE
    };

    /** How often each call is made: styles, sets, or all alike, so that each table also runs full. */
    private static final int[][] MIXES = {
        {4, 1, 6, 6, 4, 4, 4, 2, 6, 4, 4, 2, 2, 4, 4, 1, 1, 4},
        {30, 1, 8, 6, 5, 5, 6, 1, 1, 1, 2, 1, 1, 3, 1, 1, 1, 4},
        {12, 4, 20, 6, 6, 6, 8, 1, 1, 1, 2, 1, 1, 3, 1, 1, 1, 4},
        {1, 0, 1, 1, 1, 1, 1, 2, 80, 15, 4, 2, 1, 1, 1, 1, 0, 2},
        {2, 0, 2, 4, 1, 1, 1, 3, 20, 12, 12, 6, 4, 6, 6, 12, 1, 4},
        {1, 1, 1, 1, 1, 1, 1, 1, 1, 1, 1, 1, 1, 1, 1, 1, 1, 1},
    };

    private final Random random;
    private final int[] mix;
    private final int narrow;
    private final int spread;
    private final StyleSheet sheet = new StyleSheet();
    private final Model model = new Model();

    private ModelTest(int seed) {
        random = new Random(seed);
        mix = MIXES[seed % MIXES.length];
        narrow = random.nextBoolean() ? 24 : 1 + random.nextInt(24);
        spread = random.nextBoolean() ? 3 : 300;
    }

    public static void main(String[] args) {
        int[] outcomes = new int[4];
        int fullStyles = 0;
        int fullSets = 0;
        for (int seed = 0; seed < RUNS; seed++) {
            ModelTest test = new ModelTest(seed);
            if (!test.run(seed, outcomes)) {
                System.exit(1);
            }
            fullStyles += test.model.stylesRanFull ? 1 : 0;
            fullSets += test.model.setsRanFull ? 1 : 0;
        }
        System.out.println(RUNS + " runs of " + CALLS + " calls: " + outcomes[0] + " answered, " + outcomes[1]
                + " no element, " + outcomes[2] + " argument, " + outcomes[3] + " state; "
                + fullStyles + " runs with no style left, " + fullSets + " with no set left");
        boolean reachedAll = outcomes[1] > 0 && outcomes[2] > 0 && fullStyles > 0 && fullSets > 0;
        System.exit(reachedAll ? 0 : 1);
    }

    private boolean run(int seed, int[] outcomes) {
        for (int call = 0; call < CALLS; call++) {
            int which = pickCall();
            int[] a = arguments(which);
            String want = Due.outcome(() -> model.call(which, a));
            String got = Due.outcome(() -> onSheet(which, a));
            outcomes[kindOfOutcome(want)]++;
            if (!want.equals(got)) {
                System.out.println("run " + seed + ", call " + call + ": " + Model.NAMES[which] + Arrays.toString(a)
                        + " answered " + got + ", due is " + want);
                return false;
            }
        }
        return true;
    }

    private static int kindOfOutcome(String outcome) {
        switch (outcome) {
            case "throws.NoSuchElementException":
                return 1;
            case "throws.IllegalArgumentException":
                return 2;
            case "throws.IllegalStateException":
                return 3;
            default:
                return 0;
        }
    }

    private int pickCall() {
        int left = random.nextInt(Arrays.stream(mix).sum());
        for (int which = 0; which < KINDS_OF_CALL; which++) {
            left -= mix[which];
            if (left < 0) {
                return which;
            }
        }
        return KINDS_OF_CALL - 1;
    }

    /** Mostly arguments that fit; now and then one that may not. */
    private int[] arguments(int which) {
        int[] a = new int[4];
        String roles = Model.ROLES[which];
        int property = random.nextInt(narrow);
        for (int i = 0; i < roles.length(); i++) {
            a[i] = argument(roles.charAt(i), property);
            if (random.nextInt(60) == 0) {
                a[i] = ODD[random.nextInt(ODD.length)];
            }
        }
        if (roles.equals("kb") && random.nextInt(8) != 0) {
            a[1] = someStyle(a[0], true);
        }
        if (roles.equals("sb") && random.nextInt(8) != 0 && model.isStyle(a[0])) {
            a[1] = someStyle(model.kind[a[0]], true);
        }
        return a;
    }

    private int argument(char role, int property) {
        switch (role) {
            case 'k':
                return random.nextInt(2);
            case 's':
                return someStyle(random.nextInt(2), false);
            case 'b':
            case 'c':
                return someStyle(0, true);
            case 'q':
                return someStyle(1, true);
            case 'p':
                return property;
            case 'v':
                return someValue(property);
            case 'u':
                return Math.max(0, someValue(property));
            case 'w':
                return random.nextInt(6);
            default:
                return someSet();
        }
    }

    private int someValue(int property) {
        int greatest = Model.greatest(property);
        switch (random.nextInt(8)) {
            case 0:
                return -1;
            case 1:
                return greatest;
            case 2:
                return random.nextInt(greatest + 1);
            default:
                return random.nextInt(Math.min(spread, greatest + 1));
        }
    }

    private int someStyle(int kind, boolean noneToo) {
        if (noneToo && random.nextInt(6) == 0) {
            return -1;
        }
        int start = random.nextInt(64);
        for (int i = 0; i < 64; i++) {
            int style = (start + i) % 64;
            if (model.isStyle(style) && model.kind[style] == kind) {
                return style;
            }
        }
        return noneToo ? -1 : start;
    }

    private int someSet() {
        int start = random.nextInt(256);
        for (int i = 0; i < 256; i++) {
            int set = (start + i) % 256;
            if (model.isSet(set)) {
                return set;
            }
        }
        return 0;
    }

    private String onSheet(int which, int[] a) {
        switch (which) {
            case 0: return "" + sheet.make(a[0], a[1]);
            case 1: return "" + sheet.drop(a[0]);
            case 2: return "" + sheet.rebase(a[0], a[1]);
            case 3: sheet.own(a[0], a[1], a[2]); return "void";
            case 4: return "" + sheet.value(a[0], a[1]);
            case 5: return "" + sheet.giver(a[0], a[1]);
            case 6: return "" + sheet.style(a[0], a[1]);
            case 7: sheet.usual(a[0], a[1]); return "void";
            case 8: return "" + sheet.with(a[0], a[1], a[2]);
            case 9: return "" + sheet.over(a[0], a[1]);
            case 10: return "" + sheet.lean(a[0], a[1], a[2]);
            case 11: return "" + sheet.get(a[0], a[1]);
            case 12: return "" + sheet.size(a[0]);
            case 13: return "" + sheet.resolve(a[0], a[1], a[2], a[3]);
            case 14: return "" + sheet.differ(a[0], a[1], a[2], a[3]);
            case 15: return "" + sheet.mark(a[0]);
            case 16: return "" + sheet.sweep();
            default: return "" + sheet.count(a[0]);
        }
    }
}
