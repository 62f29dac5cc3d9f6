import java.util.ArrayList;
import java.util.HashSet;
import java.util.List;
import java.util.Map;
import java.util.NoSuchElementException;
import java.util.Set;
import java.util.TreeMap;

/** The document in its plainest words, on maps: what StyleSheet is compared with. */
final class Model {
    static final String[] NAMES = {
        "make", "drop", "rebase", "own", "value", "giver", "style", "usual", "with", "over", "lean", "get", "size",
        "resolve", "differ", "mark", "sweep", "count"
    };

    /** What each call's arguments are, a letter each: (s)tyle, (b)ase, (t) set, (p)roperty, (v)alue .. */
    static final String[] ROLES = {
        "kb", "s", "sb", "spv", "sp", "sp", "sw", "pu", "tpv", "tt", "tcq", "tp", "t", "tcqp", "ttcq", "t", "", "w"
    };

    final Map<Integer, TreeMap<Integer, Integer>> own = new TreeMap<>();
    final int[] kind = new int[64];
    private final Map<Integer, Integer> base = new TreeMap<>();
    private final TreeMap<Integer, TreeMap<Integer, Integer>> sets = new TreeMap<>();
    private final Set<Integer> marked = new HashSet<>();
    private final int[] usual = new int[24];
    boolean stylesRanFull = false;
    boolean setsRanFull = false;

    Model() {
        sets.put(0, new TreeMap<>());
    }

    static int greatest(int property) {
        return property < 8 ? 1 : property < 16 ? 255 : 65535;
    }

    boolean isStyle(int style) {
        return own.containsKey(style);
    }

    boolean isSet(int set) {
        return sets.containsKey(set);
    }

    String call(int which, int[] a) {
        refuseWrongArguments(which, a);
        switch (NAMES[which]) {
            case "make": return "" + make(a[0], a[1]);
            case "drop": return "" + drop(a[0]);
            case "rebase": return "" + rebase(a[0], a[1]);
            case "own": put(own.get(a[0]), a[1], a[2]); return "void";
            case "value": return "" + value(a[0], a[1]);
            case "giver": return "" + giver(a[0], a[1]);
            case "style": return "" + style(a[0], a[1]);
            case "usual": usual[a[0]] = a[1]; return "void";
            case "with": return "" + with(a[0], a[1], a[2]);
            case "over": return "" + over(a[0], a[1]);
            case "lean": return "" + lean(a[0], a[1], a[2]);
            case "get": return "" + sets.get(a[0]).getOrDefault(a[1], -1);
            case "size": return "" + (isSet(a[0]) ? sets.get(a[0]).size() : -1);
            case "resolve": return "" + resolve(sets.get(a[0]), a[1], a[2], a[3]);
            case "differ": return "" + differ(a[0], a[1], a[2], a[3]);
            case "mark": marked.add(a[0]); return "" + marked.size();
            case "sweep": return "" + sweep();
            default: return "" + count(a[0]);
        }
    }

    private void refuseWrongArguments(int which, int[] a) {
        String name = NAMES[which];
        if (name.equals("size") || name.equals("count")) {
            return;
        }
        String roles = ROLES[which];
        for (int i = 0; i < roles.length(); i++) {
            char role = roles.charAt(i);
            if (role == 's' && !isStyle(a[i]) || role == 't' && !isSet(a[i])) {
                throw new NoSuchElementException();
            }
        }
        for (int i = 0; i < roles.length(); i++) {
            if (isWrong(roles.charAt(i), a, i, name)) {
                throw new IllegalArgumentException();
            }
        }
    }

    private boolean isWrong(char role, int[] a, int i, String name) {
        switch (role) {
            case 'k': return a[i] != 0 && a[i] != 1;
            case 'b': return !isNoneOr(a[i], name.equals("make") ? a[0] : kind[a[0]]);
            case 'c': return !isNoneOr(a[i], 0);
            case 'q': return !isNoneOr(a[i], 1);
            case 'p': return a[i] < 0 || a[i] > 23;
            case 'v': return a[i] < -1 || a[i] > greatest(a[i - 1]);
            case 'u': return a[i] < 0 || a[i] > greatest(a[i - 1]);
            case 'w': return a[i] < 0 || a[i] > 4;
            default: return false;
        }
    }

    private boolean isNoneOr(int style, int ofKind) {
        return style == -1 || isStyle(style) && kind[style] == ofKind;
    }

    private int make(int ofKind, int on) {
        for (int style = 0; style < 64; style++) {
            if (!isStyle(style)) {
                own.put(style, new TreeMap<>());
                kind[style] = ofKind;
                base.put(style, on);
                return style;
            }
        }
        stylesRanFull = true;
        throw new IllegalStateException();
    }

    private int drop(int style) {
        int heirs = 0;
        for (int other : own.keySet()) {
            if (base.get(other) == style) {
                base.put(other, base.get(style));
                heirs++;
            }
        }
        own.remove(style);
        base.remove(style);
        return heirs;
    }

    private List<Integer> chain(int style) {
        List<Integer> chain = new ArrayList<>();
        for (int at = style; at != -1; at = base.get(at)) {
            chain.add(at);
        }
        return chain;
    }

    private boolean rebase(int style, int on) {
        if (chain(on).contains(style)) {
            return false;
        }
        base.put(style, on);
        return true;
    }

    private static void put(Map<Integer, Integer> values, int property, int value) {
        if (value == -1) {
            values.remove(property);
        } else {
            values.put(property, value);
        }
    }

    private int giver(int style, int property) {
        for (int at : chain(style)) {
            if (own.get(at).containsKey(property)) {
                return at;
            }
        }
        return -1;
    }

    private int value(int style, int property) {
        int giver = giver(style, property);
        return giver == -1 ? -1 : own.get(giver).get(property);
    }

    private int style(int style, int what) {
        switch (what) {
            case 0: return chain(style).size();
            case 1: return (int) own.keySet().stream().filter(s -> s != style && chain(s).contains(style)).count();
            case 2: return base.get(style);
            case 3: return kind[style];
            default: return own.get(style).size();
        }
    }

    private int numberOf(TreeMap<Integer, Integer> values) {
        for (int set : sets.keySet()) {
            if (sets.get(set).equals(values)) {
                return set;
            }
        }
        for (int set = 0; set < 256; set++) {
            if (!isSet(set)) {
                sets.put(set, values);
                return set;
            }
        }
        setsRanFull = true;
        throw new IllegalStateException();
    }

    private int with(int set, int property, int value) {
        TreeMap<Integer, Integer> values = new TreeMap<>(sets.get(set));
        put(values, property, value);
        return numberOf(values);
    }

    private int over(int set, int other) {
        TreeMap<Integer, Integer> values = new TreeMap<>(sets.get(set));
        values.putAll(sets.get(other));
        return numberOf(values);
    }

    private int lean(int set, int c, int q) {
        TreeMap<Integer, Integer> values = sets.get(set);
        TreeMap<Integer, Integer> needed = new TreeMap<>();
        for (int property : values.keySet()) {
            TreeMap<Integer, Integer> others = new TreeMap<>(values);
            others.remove(property);
            if (resolve(others, c, q, property) != resolve(values, c, q, property)) {
                needed.put(property, values.get(property));
            }
        }
        return numberOf(needed);
    }

    private int resolve(Map<Integer, Integer> values, int c, int q, int property) {
        if (values.containsKey(property)) {
            return values.get(property);
        }
        for (int style : new int[] {c, q}) {
            if (value(style, property) != -1) {
                return value(style, property);
            }
        }
        return usual[property];
    }

    private int differ(int set, int other, int c, int q) {
        for (int property = 0; property < 24; property++) {
            if (resolve(sets.get(set), c, q, property) != resolve(sets.get(other), c, q, property)) {
                return property;
            }
        }
        return -1;
    }

    private int sweep() {
        int before = sets.size();
        marked.add(0);
        sets.keySet().retainAll(marked);
        marked.clear();
        return before - sets.size();
    }

    private int count(int what) {
        switch (what) {
            case 0: return own.size();
            case 1: return sets.size();
            case 2: return own.values().stream().mapToInt(Map::size).sum();
            case 3: return sets.values().stream().mapToInt(Map::size).sum();
            case 4: return own.keySet().stream().mapToInt(s -> chain(s).size()).max().orElse(0);
            default: return -1;
        }
    }
}
