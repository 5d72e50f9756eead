import java.util.ArrayList;
import java.util.HashMap;
import java.util.HashSet;
import java.util.List;
import java.util.Map;
import java.util.Set;

/** The document once more, written as plainly as can be and in another way; slow, for tests alone. */
final class Model {
    final List<Integer> kinds = new ArrayList<>();
    final List<int[]> lines = new ArrayList<>();
    final Map<List<Integer>, Integer> routes = new HashMap<>();
    final Set<List<Integer>> denied = new HashSet<>();
    final Set<List<Integer>> off = new HashSet<>();
    final Map<Integer, Integer> names = new HashMap<>();
    Integer namer = null;
    final List<int[]> faults = new ArrayList<>();
    final List<List<Integer>> causes = new ArrayList<>();
    final List<int[]> looks = new ArrayList<>();
    List<Integer> row = new ArrayList<>();

    boolean lesson = false;
    int lessonCause;
    List<Integer> mended = new ArrayList<>();
    List<int[]> had = new ArrayList<>();
    int minutes;
    int used;
    int telling;
    int wrongClaims;

    boolean isNode(int n) { return 0 <= n && n < kinds.size(); }
    boolean isHost(int n) { return isNode(n) && kinds.get(n) == 0; }
    boolean isGate(int n) { return isNode(n) && (kinds.get(n) == 2 || kinds.get(n) == 3); }
    boolean isWall(int n) { return isNode(n) && kinds.get(n) == 3; }
    boolean isLine(int n) { return 0 <= n && n < lines.size(); }
    static boolean isService(int n) { return 0 <= n && n <= 3; }
    static boolean isName(int n) { return 0 <= n && n <= 5; }
    boolean isFault(int n) { return 0 <= n && n < faults.size(); }
    boolean isCause(int n) { return 0 <= n && n < causes.size(); }
    boolean isLook(int n) { return 0 <= n && n < looks.size(); }

    int node(int kind) {
        if (kind < 0 || kind > 3 || kinds.size() == 12) return -1;
        lesson = false;
        kinds.add(kind);
        return kinds.size() - 1;
    }

    int lineOf(int a, int b) {
        for (int i = 0; i < lines.size(); i++) {
            int[] l = lines.get(i);
            if (l[0] == a && l[1] == b || l[0] == b && l[1] == a) return i;
        }
        return -1;
    }

    int line(int a, int b) {
        if (!isNode(a) || !isNode(b) || a == b || lineOf(a, b) >= 0 || lines.size() == 20) return -1;
        lesson = false;
        lines.add(new int[] {a, b});
        return lines.size() - 1;
    }

    boolean route(int node, int host, int next) {
        if (!isGate(node) || !isHost(host) || next == node || next != -1 && !isNode(next)) return false;
        lesson = false;
        if (next == -1) routes.remove(List.of(node, host)); else routes.put(List.of(node, host), next);
        return true;
    }

    boolean deny(int wall, int host, int service, boolean is) {
        if (!isWall(wall) || !isHost(host) || !isService(service)) return false;
        lesson = false;
        if (is) denied.add(List.of(wall, host, service)); else denied.remove(List.of(wall, host, service));
        return true;
    }

    boolean on(int host, int service, boolean is) {
        if (!isHost(host) || !isService(service)) return false;
        lesson = false;
        if (is) off.remove(List.of(host, service)); else off.add(List.of(host, service));
        return true;
    }

    boolean name(int name, int host) {
        if (!isName(name) || host != -1 && !isHost(host)) return false;
        lesson = false;
        if (host == -1) names.remove(name); else names.put(name, host);
        return true;
    }

    boolean namer(int host) {
        if (host != -1 && !isHost(host)) return false;
        lesson = false;
        namer = host == -1 ? null : host;
        return true;
    }

    int count(int what) {
        int[] counts = {kinds.size(), lines.size(), faults.size(), causes.size(), looks.size(), row.size(), lesson ? 1 : 0};
        return what >= 0 && what < counts.length ? counts[what] : -1;
    }

    /** The fewest lines of a way between two nodes on which no host is passed, by walks of growing length. */
    int distance(int from, int to) {
        Set<Integer> at = new HashSet<>(Set.of(from));
        for (int steps = 0; steps <= 12; steps++) {
            if (at.contains(to)) return steps;
            Set<Integer> further = new HashSet<>();
            for (int n : at) {
                if (steps > 0 && isHost(n)) continue;
                for (int m = 0; m < kinds.size(); m++) if (lineOf(n, m) >= 0) further.add(m);
            }
            at = further;
        }
        return 1000;
    }

    int nearest(int node, int to) {
        int best = -1;
        int least = 1000;
        for (int n = 0; n < kinds.size(); n++) {
            if (lineOf(node, n) < 0 || isHost(n) && n != to) continue;
            int d = distance(n, to);
            if (d < least) {
                least = d;
                best = n;
            }
        }
        return best;
    }

    int next(int node, int to, int what) {
        if (!isNode(node) || !isNode(to) || node == to || what < 0 || what > 1) return -1;
        return what == 0 ? next(List.of(), node, to) : nearest(node, to);
    }

    int next(List<Integer> broken, int node, int to) {
        for (int i = broken.size() - 1; i >= 0; i--) {
            int[] f = faults.get(broken.get(i));
            if (f[0] == 4 && f[1] == node && f[2] == to) return f[3];
        }
        Integer told = routes.get(List.of(node, to));
        return told != null ? told : nearest(node, to);
    }

    boolean has(List<Integer> broken, int... numbers) {
        for (int i : broken) {
            boolean same = true;
            for (int k = 0; k < numbers.length; k++) same &= faults.get(i)[k] == numbers[k];
            if (same) return true;
        }
        return false;
    }

    boolean isOn(List<Integer> broken, int host, int service) {
        return !off.contains(List.of(host, service)) && !has(broken, 5, host, service);
    }

    Integer hostOf(List<Integer> broken, int name) {
        for (int i = broken.size() - 1; i >= 0; i--) {
            int[] f = faults.get(broken.get(i));
            if (f[0] == 2 && f[1] == name) return f[2];
        }
        return names.get(name);
    }

    List<Integer> path(List<Integer> broken, int service, int from, int to) {
        List<Integer> path = new ArrayList<>(List.of(from));
        int at = from;
        while (at != to) {
            if (path.size() == 31) break;
            if (isHost(at) && at != from) break;
            if (denied.contains(List.of(at, to, service)) || has(broken, 3, at, to, service)) break;
            int n = next(broken, at, to);
            if (n == -1 || lineOf(at, n) < 0 || has(broken, 0, lineOf(at, n))) break;
            at = n;
            path.add(at);
        }
        return path;
    }

    boolean comes(List<Integer> broken, int service, int from, int to) {
        List<Integer> path = path(broken, service, from, to);
        return path.get(path.size() - 1) == to && !has(broken, 1, to);
    }

    boolean both(List<Integer> broken, int service, int a, int b) {
        return comes(broken, service, a, b) && comes(broken, service, b, a);
    }

    int answerBy(int look, List<Integer> broken) {
        int[] l = looks.get(look);
        switch (l[0]) {
            case 0: return both(broken, 0, l[1], l[2]) ? 1 : 0;
            case 1: return path(broken, 0, l[1], l[2]).size() - 1 + (comes(broken, 0, l[1], l[2]) ? 100 : 0);
            case 2: return call(broken, l[1], l[2], l[3]);
            case 3: return next(broken, l[1], l[2]) == -1 ? 99 : next(broken, l[1], l[2]);
            default: return has(broken, 0, l[1]) ? 0 : 1;
        }
    }

    int call(List<Integer> broken, int a, int name, int service) {
        if (namer == null || !isOn(broken, namer, 1)) return 1;
        if (a != namer && !both(broken, 1, a, namer)) return 1;
        Integer h = hostOf(broken, name);
        if (h == null) return 2;
        if (a != h && !both(broken, service, a, h)) return 3;
        return isOn(broken, h, service) ? 10 + h : 4;
    }

    int fault(int kind, int a, int b, int c) {
        boolean[] fits = {
            isLine(a), isHost(a), isName(a) && isHost(b), isWall(a) && isHost(b) && isService(c),
            isGate(a) && isHost(b) && isNode(c) && a != c, isHost(a) && isService(b),
        };
        if (kind < 0 || kind > 5 || !fits[kind] || faults.size() == 12) return -1;
        lesson = false;
        faults.add(new int[] {kind, a, b, c});
        return faults.size() - 1;
    }

    int cause(int first, int second) {
        if (!isFault(first) || second != -1 && !isFault(second) || first == second || causes.size() == 12) return -1;
        lesson = false;
        causes.add(second == -1 ? List.of(first) : List.of(first, second));
        return causes.size() - 1;
    }

    int look(int kind, int a, int b, int c, int price) {
        boolean hosts = isHost(a) && isHost(b) && a != b;
        boolean[] fits = {hosts, hosts, isHost(a) && isName(b) && isService(c), isGate(a) && isHost(b), isLine(a)};
        if (kind < 0 || kind > 4 || !fits[kind] || price < 1 || price > 100 || looks.size() == 12) return -1;
        lesson = false;
        looks.add(new int[] {kind, a, b, c, price});
        return looks.size() - 1;
    }

    List<Integer> brokenBy(int cause) {
        return cause == -1 ? List.of() : causes.get(cause);
    }

    /** null: throws. */
    Integer answer(int look, int cause) {
        if (!isLook(look) || cause != -1 && !isCause(cause)) return null;
        return answerBy(look, brokenBy(cause));
    }

    int goes(int cause, int service, int a, int b) {
        if (cause != -1 && !isCause(cause) || !isService(service) || !isHost(a) || !isHost(b) || a == b) return -1;
        row = path(brokenBy(cause), service, a, b);
        return row.size();
    }

    int unlike(int a, int b) {
        if (!isCause(a) || !isCause(b)) return -1;
        int bits = 0;
        for (int l = 0; l < looks.size(); l++) {
            if (answerBy(l, causes.get(a)) != answerBy(l, causes.get(b))) bits |= 1 << l;
        }
        return bits;
    }

    int fair() {
        for (int a = 0; a < causes.size(); a++) {
            for (int b = a + 1; b < causes.size(); b++) {
                if (unlike(a, b) == 0) {
                    row = new ArrayList<>(List.of(a, b));
                    return 1;
                }
            }
        }
        return 0;
    }

    int groups(int look) {
        if (!isLook(look)) return -1;
        return parts(look, members((1 << causes.size()) - 1)).size();
    }

    List<Integer> members(int set) {
        List<Integer> in = new ArrayList<>();
        for (int i = 0; i < causes.size(); i++) if ((set & 1 << i) != 0) in.add(i);
        return in;
    }

    Map<Integer, List<Integer>> parts(int look, List<Integer> set) {
        Map<Integer, List<Integer>> parts = new HashMap<>();
        for (int c : set) parts.computeIfAbsent(answerBy(look, causes.get(c)), k -> new ArrayList<>()).add(c);
        return parts;
    }

    private boolean isSet(int set) {
        return set >= 1 && set < 1 << causes.size();
    }

    int worst(int set) {
        return isSet(set) ? worst(members(set), new HashMap<>()) : -1;
    }

    private int worst(List<Integer> set, Map<List<Integer>, Integer> known) {
        if (known.containsKey(set)) return known.get(set);
        int least = Integer.MAX_VALUE;
        for (int l = 0; l < looks.size(); l++) least = Math.min(least, costOf(l, set, known));
        least = least == Integer.MAX_VALUE ? 0 : least;
        known.put(set, least);
        return least;
    }

    private int costOf(int look, List<Integer> set, Map<List<Integer>, Integer> known) {
        Map<Integer, List<Integer>> parts = parts(look, set);
        if (parts.size() < 2) return Integer.MAX_VALUE;
        int greatest = 0;
        for (List<Integer> part : parts.values()) greatest = Math.max(greatest, worst(part, known));
        return looks.get(look)[4] + greatest;
    }

    int tells(int set) {
        if (!isSet(set)) return -1;
        int best = -1;
        long bestRank = Long.MAX_VALUE;
        for (int l = 0; l < looks.size(); l++) {
            Map<Integer, List<Integer>> parts = parts(l, members(set));
            long most = 0;
            for (List<Integer> part : parts.values()) most = Math.max(most, part.size());
            long rank = (most * 1000 + looks.get(l)[4]) * 1000 + l;
            if (parts.size() > 1 && rank < bestRank) {
                bestRank = rank;
                best = l;
            }
        }
        return best;
    }

    int first(int set) {
        if (!isSet(set)) return -1;
        Map<List<Integer>, Integer> known = new HashMap<>();
        int worst = worst(members(set), known);
        for (int l = 0; l < looks.size(); l++) if (costOf(l, members(set), known) == worst) return l;
        return -1;
    }

    boolean begin(int cause) {
        if (!isCause(cause)) return false;
        lesson = true;
        lessonCause = cause;
        mended = new ArrayList<>();
        had = new ArrayList<>();
        minutes = 0;
        used = 0;
        telling = 0;
        wrongClaims = 0;
        return true;
    }

    List<Integer> unmended() {
        List<Integer> still = new ArrayList<>(causes.get(lessonCause));
        still.removeAll(mended);
        return still;
    }

    int use(int look) {
        if (!lesson || !isLook(look)) return -2;
        int answer = answerBy(look, unmended());
        int before = left();
        if (mended.isEmpty()) had.add(new int[] {look, answer});
        if (left() != before) telling++;
        used++;
        minutes += looks.get(look)[4];
        return answer;
    }

    int left() {
        if (!lesson) return -2;
        int bits = 0;
        for (int c = 0; c < causes.size(); c++) {
            boolean fits = true;
            for (int[] h : had) fits &= answerBy(h[0], causes.get(c)) == h[1];
            if (fits) bits |= 1 << c;
        }
        return bits;
    }

    int mend(int fault) {
        if (!lesson || !isFault(fault)) return -2;
        if (mended.contains(fault)) return -3;
        mended.add(fault);
        minutes += 5;
        return unmended().size();
    }

    int well() {
        if (!lesson) return -2;
        for (int l = 0; l < looks.size(); l++) if (answerBy(l, unmended()) != answerBy(l, List.of())) return 0;
        return 1;
    }

    int claim(int cause) {
        if (!lesson || !isCause(cause)) return -2;
        if (cause == lessonCause) return -1;
        wrongClaims++;
        minutes += 10;
        for (int l = 0; l < looks.size(); l++) if ((unlike(cause, lessonCause) & 1 << l) != 0) return l;
        return -3;
    }

    int mark(int what) {
        if (!lesson || what < 0 || what > 5) return -2;
        int[] marks = {minutes, used, telling, wrongClaims, mended.size(), worst((1 << causes.size()) - 1)};
        return marks[what];
    }

    /** null: throws. */
    Integer row(int i) {
        return i >= 0 && i < row.size() ? row.get(i) : null;
    }
}
