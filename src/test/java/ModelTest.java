import java.util.NoSuchElementException;

/** Long mixed runs of calls, each answer against the model's; nothing else is ever thrown. */
public final class ModelTest {
    private static final int RUNS = 80;
    private static final int CALLS = 512;

    private long seed;
    private NetSchool x = new NetSchool();
    private Model m = new Model();
    private int wrong = 0;
    private final int[] given = new int[32];

    public static void main(String[] args) {
        int runs = args.length > 0 ? Integer.parseInt(args[0]) : RUNS;
        ModelTest t = new ModelTest();
        for (int run = 1; run <= runs && t.wrong < 10; run++) {
            t.run(run);
        }
        for (int call = 0; call < 29; call++) {
            if (t.given[call] == 0) {
                t.wrong++;
                System.out.println("call " + call + " was never given");
            }
        }
        System.out.println("ModelTest: " + runs + " runs, " + t.wrong + " wrong");
        if (t.wrong != 0) {
            System.exit(1);
        }
    }

    /** A number from 0 to n - 1, the same ones each time. */
    private int pick(int n) {
        seed = seed * 6364136223846793005L + 1442695040888963407L;
        return (int) ((seed >>> 33) % n);
    }

    private static final int[] ODD = {-1, -2, -3, 12, 13, 20, 31, 32, 33, 64, 4096, 1 << 30, Integer.MIN_VALUE, Integer.MAX_VALUE};

    /** Mostly one below n, seldom an odd one. */
    private int some(int n) {
        if (pick(25) == 0) {
            return ODD[pick(ODD.length)];
        }
        return pick(20) == 0 ? n : n > 0 ? pick(n) : -1;
    }

    private int someOrNone(int n) {
        return pick(3) == 0 ? -1 : some(n);
    }

    /** A node of one of the kinds in the bits, if there is one. */
    private int of(int kindBits) {
        if (pick(15) == 0) {
            return some(m.kinds.size());
        }
        int from = pick(12);
        for (int i = 0; i < 12; i++) {
            int n = (from + i) % 12;
            if (n < m.kinds.size() && (kindBits & 1 << m.kinds.get(n)) != 0) {
                return n;
            }
        }
        return -1;
    }

    private void due(int run, int i, String call, Integer want, Integer got) {
        if (want == null ? got != null : !want.equals(got)) {
            wrong++;
            System.out.println("run " + run + ", call " + i + ": " + call + " answered " + got + ", due is " + want);
        }
    }

    private void run(int run) {
        seed = run;
        x = new NetSchool();
        m = new Model();
        int building = 60 + pick(120);
        int shape = pick(3);
        for (int i = 0; i < CALLS && wrong < 10; i++) {
            int call = i < building ? buildCall(i, shape) : pick(40) == 0 ? pick(13) : 9 + pick(20);
            if (call == 8 && pick(6) != 0) {
                call = 15;
            }
            given[call]++;
            step(run, i, call);
        }
    }

    private int buildCall(int i, int shape) {
        if (i < 12 - shape) {
            return 0;
        }
        return i < 34 ? 1 : 2 + pick(12);
    }

    private static int bit(boolean b) {
        return b ? 1 : 0;
    }

    private void step(int run, int i, int call) {
        int hosts = 1;
        int gates = 4 | 8;
        int any = 15;
        boolean is = pick(2) == 0;
        switch (call) {
            case 0: { int k = some(4); due(run, i, "node(" + k + ")", m.node(k), x.node(k)); break; }
            case 1: { int a = of(pick(3) == 0 ? any : 14); int b = of(any); due(run, i, "line(" + a + ", " + b + ")", m.line(a, b), x.line(a, b)); break; }
            case 2: { int a = of(gates); int b = of(hosts); int c = pick(3) == 0 ? -1 : of(any);
                due(run, i, "route(" + a + ", " + b + ", " + c + ")", bit(m.route(a, b, c)), bit(x.route(a, b, c))); break; }
            case 3: { int a = of(8); int b = of(hosts); int c = some(4);
                due(run, i, "deny(" + a + ", " + b + ", " + c + ", " + is + ")", bit(m.deny(a, b, c, is)), bit(x.deny(a, b, c, is))); break; }
            case 4: { int a = of(hosts); int b = some(4); boolean on = pick(4) != 0;
                due(run, i, "on(" + a + ", " + b + ", " + on + ")", bit(m.on(a, b, on)), bit(x.on(a, b, on))); break; }
            case 5: { int a = some(6); int b = pick(5) == 0 ? -1 : of(hosts); due(run, i, "name(" + a + ", " + b + ")", bit(m.name(a, b)), bit(x.name(a, b))); break; }
            case 6: { int a = pick(9) == 0 ? -1 : of(hosts); due(run, i, "namer(" + a + ")", bit(m.namer(a)), bit(x.namer(a))); break; }
            case 7: case 10: { int k = some(6); int a = k == 0 ? some(m.lines.size()) : k == 2 ? some(6) : of(k == 3 ? 8 : k == 4 ? gates : hosts);
                int b = k == 5 ? some(4) : of(hosts); int c = k == 3 ? some(4) : of(any);
                due(run, i, "fault(" + k + ", " + a + ", " + b + ", " + c + ")", m.fault(k, a, b, c), x.fault(k, a, b, c)); break; }
            case 8: { int nodes = m.kinds.size(); m = new Model(); due(run, i, "clear()", nodes, x.clear()); break; }
            case 9: case 11: { int a = some(m.faults.size()); int b = someOrNone(m.faults.size());
                due(run, i, "cause(" + a + ", " + b + ")", m.cause(a, b), x.cause(a, b)); break; }
            case 12: case 13: { int k = some(5); int a = k == 4 ? some(m.lines.size()) : of(k == 3 ? gates : hosts); int b = k == 2 ? some(6) : of(hosts);
                int c = some(4); int p = pick(9) == 0 ? ODD[pick(ODD.length)] : pick(6) == 0 ? pick(102) : 1 + pick(9);
                due(run, i, "look(" + k + ", " + a + ", " + b + ", " + c + ", " + p + ")", m.look(k, a, b, c, p), x.look(k, a, b, c, p)); break; }
            default: ask(run, i, call);
        }
    }

    private void ask(int run, int i, int call) {
        int causes = m.causes.size();
        int looks = m.looks.size();
        int set = pick(20) == 0 ? ODD[pick(ODD.length)] : pick(15) == 0 ? 0 : 1 + pick(1 << causes);
        switch (call) {
            case 14: { int w = some(7); due(run, i, "count(" + w + ")", m.count(w), x.count(w)); break; }
            case 15: { int a = of(15); int b = of(15); int w = some(2); due(run, i, "next(" + a + ", " + b + ", " + w + ")", m.next(a, b, w), x.next(a, b, w)); break; }
            case 16: { int l = some(looks); int c = someOrNone(causes); due(run, i, "answer(" + l + ", " + c + ")", m.answer(l, c), answer(l, c)); break; }
            case 17: { int c = someOrNone(causes); int s = some(4); int a = of(1); int b = of(1);
                due(run, i, "goes(" + c + ", " + s + ", " + a + ", " + b + ")", m.goes(c, s, a, b), x.goes(c, s, a, b)); break; }
            case 18: { int a = some(causes); int b = some(causes); due(run, i, "unlike(" + a + ", " + b + ")", m.unlike(a, b), x.unlike(a, b)); break; }
            case 19: due(run, i, "fair()", m.fair(), x.fair()); break;
            case 20: { int l = some(looks); due(run, i, "groups(" + l + ")", m.groups(l), x.groups(l)); break; }
            case 21: if (pick(3) == 0) { due(run, i, "worst(" + set + ")", m.worst(set), x.worst(set)); }
                else { due(run, i, "tells(" + set + ")", m.tells(set), x.tells(set)); } break;
            case 22: if (pick(3) == 0) { due(run, i, "first(" + set + ")", m.first(set), x.first(set)); }
                else if (!m.lesson || pick(8) == 0) { int c = some(causes); due(run, i, "begin(" + c + ")", bit(m.begin(c)), bit(x.begin(c))); } break;
            case 23: case 24: { int l = some(looks); due(run, i, "use(" + l + ")", m.use(l), x.use(l)); due(run, i, "left()", m.left(), x.left()); break; }
            case 25: if (pick(3) != 0) { int f = some(m.faults.size()); due(run, i, "mend(" + f + ")", m.mend(f), x.mend(f)); }
                else { due(run, i, "well()", m.well(), x.well()); } break;
            case 26: { int c = some(causes); due(run, i, "claim(" + c + ")", m.claim(c), x.claim(c)); break; }
            case 27: { int w = pick(2) == 0 ? pick(5) : some(6); due(run, i, "mark(" + w + ")", m.mark(w), x.mark(w)); break; }
            default: { int r = pick(3) == 0 ? some(31) : some(m.row.size()); due(run, i, "row(" + r + ")", m.row(r), row(r)); break; }
        }
    }

    private Integer answer(int look, int cause) {
        try {
            return x.answer(look, cause);
        } catch (NoSuchElementException e) {
            return null;
        }
    }

    private Integer row(int i) {
        try {
            return x.row(i);
        } catch (NoSuchElementException e) {
            return null;
        }
    }
}
