import java.util.ArrayList;
import java.util.HashMap;
import java.util.HashSet;
import java.util.List;
import java.util.Map;
import java.util.Set;

/**
 * The document's terms once more, written down as sets, pairs and maps rather than as the class does it:
 * ModelTest compares the two. It takes only calls that the class has taken.
 */
final class PlainModel {
    static final int[] WIDTH = {4, 2, 4, 2, 1};
    static final long[] LEAST = {0, 0, Integer.MIN_VALUE, Short.MIN_VALUE, -128};
    static final long[] MOST = {4294967295L, 65535, Integer.MAX_VALUE, Short.MAX_VALUE, 255};

    final List<int[]> sections = new ArrayList<>();     // object, kind, size, align, keep, set, group
    final List<byte[]> bytes = new ArrayList<>();
    final List<int[]> symbols = new ArrayList<>();      // object, name, section, offset, sort
    final List<int[]> relocations = new ArrayList<>();  // section, offset, type, symbol, addend
    final List<Integer> roots = new ArrayList<>();
    final int[] bases = {-1, -1, -1, -1};

    int faultKind;
    int faultNumber;
    Set<Integer> lost;
    List<Integer> rows;
    Map<Integer, Integer> by;
    Map<Integer, Integer> folded;
    Map<Integer, Long> places;
    long[][] ranges;
    List<String> veneers;                // "section target addend", in the order of their making
    Map<Integer, String> veneerOf;
    int times;
    Map<Long, Integer> image;

    void section(int object, int kind, int size, int align, int seed) {
        sections.add(new int[] {object, kind, size, align, 0, -1, -1});
        byte[] content = new byte[size];
        for (int i = 0; i < size && kind != 3; i++) {
            content[i] = (byte) (seed + i);
        }
        bytes.add(content);
    }

    void link(boolean fold) {
        faultKind = 0;
        faultNumber = -1;
        image = null;
        findLost();
        for (int i = 0; i < symbols.size(); i++) {
            for (int j = 0; j < i; j++) {
                boolean both = isGlobalDefinition(i) && isGlobalDefinition(j);
                if (both && symbols.get(i)[1] == symbols.get(j)[1]) {
                    fail(1, i);
                }
            }
        }
        if (faultKind == 1) {
            rows = new ArrayList<>();
            folded = new HashMap<>();
            return;
        }
        findKept();
        findFolded(fold);
        findEarlyFaults();
        if (faultKind == 0) {
            placeAll();
            findLateFaults();
        }
        if (faultKind == 0) {
            write();
        }
    }

    private void fail(int kind, int number) {
        if (faultKind == 0 || (faultKind == kind && number < faultNumber)) {
            faultKind = kind;
            faultNumber = number;
        }
    }

    private void findLost() {
        lost = new HashSet<>();
        for (int s = 0; s < sections.size(); s++) {
            for (int[] other : sections) {
                int[] one = sections.get(s);
                if (one[6] != -1 && one[6] == other[6] && other[0] < one[0]) {
                    lost.add(s);
                }
            }
        }
    }

    private boolean isGlobalDefinition(int symbol) {
        int[] s = symbols.get(symbol);
        return s[4] == 1 && s[2] >= 0 && !lost.contains(s[2]);
    }

    private int definition(int name) {
        for (int sort = 1; sort <= 2; sort++) {
            for (int i = 0; i < symbols.size(); i++) {
                int[] s = symbols.get(i);
                if (s[1] == name && s[4] == sort && s[2] >= 0 && !lost.contains(s[2])) {
                    return i;
                }
            }
        }
        return -1;
    }

    /** {section, offset}, {code of START or STOP, 0} or {-1, 0} for NOWHERE. */
    int[] target(int symbol) {
        int[] s = symbols.get(symbol);
        if (s[4] == 0) {
            return new int[] {s[2], s[3]};
        }
        int d = definition(s[1]);
        return d < 0 ? new int[] {-1, 0} : new int[] {symbols.get(d)[2], symbols.get(d)[3]};
    }

    private int setOf(int[] target) {
        return target[0] <= -10 ? -10 - target[0] : target[0] <= -2 ? -2 - target[0] : -1;
    }

    private void come(int section, int from) {
        if (section >= 0 && !lost.contains(section) && !rows.contains(section)) {
            rows.add(section);
            by.put(section, from);
        }
    }

    private void findKept() {
        rows = new ArrayList<>();
        by = new HashMap<>();
        for (int s = 0; s < sections.size(); s++) {
            if (sections.get(s)[4] == 1) {
                come(s, -1);
            }
        }
        for (int name : roots) {
            int d = definition(name);
            if (d >= 0) {
                come(symbols.get(d)[2], -1);
            }
        }
        for (int at = 0; at < rows.size(); at++) {
            int one = rows.get(at);
            for (int[] r : relocations) {
                if (r[0] != one) {
                    continue;
                }
                int[] target = target(r[3]);
                come(target[0], one);
                for (int s = 0; s < sections.size(); s++) {
                    if (setOf(target) != -1 && sections.get(s)[5] == setOf(target)) {
                        come(s, one);
                    }
                }
            }
            for (int s = 0; s < sections.size(); s++) {
                if (sections.get(one)[6] != -1 && sections.get(s)[6] == sections.get(one)[6]) {
                    come(s, one);
                }
            }
        }
    }

    private boolean mayFold(int section) {
        int[] s = sections.get(section);
        if (!rows.contains(section) || s[1] > 1 || s[4] == 1 || s[5] != -1) {
            return false;
        }
        for (int[] r : relocations) {
            if (rows.contains(r[0]) && target(r[3])[0] == section && r[2] != 3) {
                return false;
            }
        }
        return true;
    }

    private List<int[]> relocationsOf(int section) {
        List<int[]> own = new ArrayList<>();
        for (int[] r : relocations) {
            if (r[0] == section) {
                own.add(r);
            }
        }
        return own;
    }

    private boolean canBeAlike(int a, int b, boolean[][] alike) {
        int[] one = sections.get(a);
        int[] other = sections.get(b);
        if (one[1] != other[1] || one[2] != other[2] || one[3] != other[3]) {
            return false;
        }
        List<int[]> some = relocationsOf(a);
        List<int[]> others = relocationsOf(b);
        if (!java.util.Arrays.equals(bytes.get(a), bytes.get(b)) || some.size() != others.size()) {
            return false;
        }
        for (int i = 0; i < some.size(); i++) {
            int[] r = some.get(i);
            int[] q = others.get(i);
            int[] t = target(r[3]);
            int[] u = target(q[3]);
            boolean like = t[0] < 0 || u[0] < 0 ? t[0] == u[0] : t[1] == u[1] && (t[0] == u[0] || alike[t[0]][u[0]]);
            if (r[1] != q[1] || r[2] != q[2] || r[4] != q[4] || !like) {
                return false;
            }
        }
        return true;
    }

    private void findFolded(boolean wanted) {
        folded = new HashMap<>();
        int n = sections.size();
        boolean[] may = new boolean[n];
        for (int a = 0; a < n; a++) {
            may[a] = wanted && mayFold(a);
        }
        boolean[][] alike = new boolean[n][n];
        for (int a = 0; a < n; a++) {
            for (int b = 0; b < n; b++) {
                alike[a][b] = a != b && may[a] && may[b];
            }
        }
        boolean changed = true;
        while (changed) {
            changed = false;
            for (int a = 0; a < n; a++) {
                for (int b = 0; b < n; b++) {
                    if (alike[a][b] && !canBeAlike(a, b, alike)) {
                        alike[a][b] = false;
                        changed = true;
                    }
                }
            }
        }
        for (int a = 0; a < n; a++) {
            for (int b = a - 1; b >= 0; b--) {
                if (alike[a][b]) {
                    folded.put(a, b);
                }
            }
        }
    }

    private void findEarlyFaults() {
        for (int i = roots.size() - 1; i >= 0; i--) {
            if (definition(roots.get(i)) < 0) {
                fail(2, i);
            }
        }
        for (int i = 0; i < relocations.size(); i++) {
            int[] r = relocations.get(i);
            if (rows.contains(r[0]) && target(r[3])[0] == -1 && symbols.get(r[3])[4] != 2) {
                fail(3, i);
            }
        }
        for (int i = 0; i < relocations.size(); i++) {
            int[] r = relocations.get(i);
            if (rows.contains(r[0]) && lost.contains(target(r[3])[0])) {
                fail(4, i);
            }
        }
    }

    private boolean isPlaced(int section) {
        return rows.contains(section) && !folded.containsKey(section);
    }

    private int veneersOf(int section) {
        int n = 0;
        for (String veneer : veneers) {
            n += veneer.startsWith(section + " ") ? 1 : 0;
        }
        return n;
    }

    int veneerCount(int section) {
        return veneersOf(section);
    }

    private long placeOfVeneer(int section, String veneer) {
        long place = places.get(section) + sections.get(section)[2];
        while (place % 4 != 0) {
            place++;
        }
        for (String other : veneers) {
            if (other.equals(veneer)) {
                return place;
            }
            place += other.startsWith(section + " ") ? 8 : 0;
        }
        return place;
    }

    private void placeOnce() {
        times++;
        places = new HashMap<>();
        ranges = new long[4][2];
        long next = 4096;
        for (int kind = 0; kind < 4; kind++) {
            next = bases[kind] == -1 ? next : bases[kind];
            ranges[kind][0] = next;
            for (int s = 0; s < sections.size(); s++) {
                if (!isPlaced(s) || sections.get(s)[1] != kind) {
                    continue;
                }
                while (next % (1 << sections.get(s)[3]) != 0) {
                    next++;
                }
                places.put(s, next);
                next += sections.get(s)[2];
                next = veneersOf(s) == 0 ? next : placeOfVeneer(s, "none");
            }
            ranges[kind][1] = next;
        }
        for (Map.Entry<Integer, Integer> fold : folded.entrySet()) {
            places.put(fold.getKey(), places.get(fold.getValue()));
        }
    }

    private void placeAll() {
        veneers = new ArrayList<>();
        veneerOf = new HashMap<>();
        times = 0;
        int before = -1;
        while (veneers.size() != before) {
            before = veneers.size();
            placeOnce();
            for (int s = 0; s < sections.size(); s++) {
                for (int i = 0; i < relocations.size() && isPlaced(s); i++) {
                    int[] r = relocations.get(i);
                    if (r[0] == s && r[2] == 3 && !veneerOf.containsKey(i) && !fits(i)) {
                        int[] t = target(r[3]);
                        String veneer = s + " " + t[0] + "+" + t[1] + " " + r[4];
                        if (!veneers.contains(veneer)) {
                            veneers.add(veneer);
                        }
                        veneerOf.put(i, veneer);
                    }
                }
            }
        }
    }

    long value(int[] target) {
        if (target[0] >= 0) {
            return places.get(target[0]) + target[1];
        }
        long least = Long.MAX_VALUE;
        long most = 0;
        for (int s : rows) {
            if (setOf(target) != -1 && sections.get(s)[5] == setOf(target)) {
                least = Math.min(least, places.get(s));
                most = Math.max(most, places.get(s) + sections.get(s)[2]);
            }
        }
        return target[0] <= -10 ? most : least == Long.MAX_VALUE ? 0 : least;
    }

    private long v(int relocation) {
        int[] r = relocations.get(relocation);
        return value(target(r[3])) + r[4];
    }

    private long written(int relocation) {
        int[] r = relocations.get(relocation);
        long p = places.get(r[0]) + r[1];
        if (veneerOf.containsKey(relocation)) {
            return placeOfVeneer(r[0], veneerOf.get(relocation)) - p;
        }
        return r[2] == 2 || r[2] == 3 ? v(relocation) - p : v(relocation);
    }

    private boolean fits(int relocation) {
        int type = relocations.get(relocation)[2];
        return written(relocation) >= LEAST[type] && written(relocation) <= MOST[type];
    }

    private boolean isThere(int kind) {
        for (int s = 0; s < sections.size(); s++) {
            if (isPlaced(s) && sections.get(s)[1] == kind) {
                return true;
            }
        }
        return false;
    }

    private void findLateFaults() {
        for (int k = 0; k < 4; k++) {
            for (int j = 0; j < k; j++) {
                boolean over = ranges[k][0] < ranges[j][1] && ranges[j][0] < ranges[k][1];
                if (over && isThere(k) && isThere(j)) {
                    fail(5, k);
                }
            }
        }
        for (int i = 0; i < relocations.size(); i++) {
            if (isPlaced(relocations.get(i)[0]) && !fits(i)) {
                fail(6, i);
            }
        }
    }

    private void write() {
        image = new HashMap<>();
        for (int s = 0; s < sections.size(); s++) {
            for (int i = 0; i < sections.get(s)[2] && isPlaced(s); i++) {
                image.put(places.get(s) + i, sections.get(s)[1] == 3 ? 0 : bytes.get(s)[i] & 255);
            }
        }
        for (int i = 0; i < relocations.size(); i++) {
            int[] r = relocations.get(i);
            if (!isPlaced(r[0])) {
                continue;
            }
            writeNumber(places.get(r[0]) + r[1], WIDTH[r[2]], written(i));
            if (veneerOf.containsKey(i)) {
                long at = placeOfVeneer(r[0], veneerOf.get(i));
                writeNumber(at, 4, 234);
                writeNumber(at + 4, 4, v(i));
            }
        }
    }

    private void writeNumber(long at, int width, long number) {
        for (int i = 0; i < width; i++) {
            image.put(at + i, (int) Math.floorMod(number >> (8 * i), 256L));
        }
    }
}
