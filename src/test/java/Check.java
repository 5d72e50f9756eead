import java.util.NoSuchElementException;

/** Counts answers that are not as due; what a test needs to build its nets. */
final class Check {
    /** Numbers that are of nothing: no node, line, name, service, fault, cause, look or place of the row. */
    static final int[] FAR = {
        Integer.MIN_VALUE, Integer.MIN_VALUE + 1, -4096, -33, -32, -12, -2, 31, 32, 33, 64, 4096, 1 << 30, Integer.MAX_VALUE,
    };

    private final String test;
    private String sentence = "";
    private int sentences = 0;
    private int askedBefore = 0;
    private int asked = 0;
    private int wrong = 0;

    Check(String test) {
        this.test = test;
    }

    /** What follows asks whether this sentence of the document holds. */
    void sentence(String words) {
        dueAsked();
        sentence = " [" + words + "]";
        sentences++;
        askedBefore = asked;
    }

    private void dueAsked() {
        if (sentences > 0 && asked == askedBefore) {
            wrong++;
            System.out.println(test + ":" + sentence + " asks nothing");
        }
    }

    void due(String call, int want, int got) {
        asked++;
        if (want != got) {
            wrong++;
            System.out.println(test + ":" + sentence + " " + call + " answered " + got + ", due is " + want);
        }
    }

    void due(String call, boolean want, boolean got) {
        due(call, want ? 1 : 0, got ? 1 : 0);
    }

    void dueRow(String call, NetSchool x, int... want) {
        due(call + " count(5)", want.length, x.count(5));
        for (int i = 0; i < want.length && i < x.count(5); i++) {
            due(call + " row(" + i + ")", want[i], x.row(i));
        }
        dueNoRow(call, x, want.length);
        dueNoRow(call, x, -1);
    }

    void dueNoRow(String call, NetSchool x, int i) {
        boolean thrown = false;
        try {
            x.row(i);
        } catch (NoSuchElementException e) {
            thrown = true;
        }
        due(call + " row(" + i + ") throws", true, thrown);
    }

    void dueNoAnswer(NetSchool x, int look, int cause) {
        boolean thrown = false;
        try {
            x.answer(look, cause);
        } catch (NoSuchElementException e) {
            thrown = true;
        }
        due("answer(" + look + ", " + cause + ") throws", true, thrown);
    }

    void end() {
        dueAsked();
        String told = sentences > 0 ? sentences + " sentences, " : "";
        System.out.println(test + ": " + told + asked + " asked, " + wrong + " wrong");
        if (wrong != 0 || asked == 0) {
            System.exit(1);
        }
    }

    /** Nodes of these kinds, 0, 1, .. in their order. */
    static NetSchool net(int... kinds) {
        NetSchool x = new NetSchool();
        for (int kind : kinds) {
            x.node(kind);
        }
        return x;
    }

    /** Hosts 0, 1, 2; switch 3; router 4; wall 5; lines 0: 0-3, 1: 3-4, 2: 4-5, 3: 5-1, 4: 3-2. */
    static NetSchool smallNet() {
        NetSchool x = new NetSchool();
        addSmallNet(x);
        return x;
    }

    static void addSmallNet(NetSchool x) {
        for (int kind : new int[] {0, 0, 0, 1, 2, 3}) {
            x.node(kind);
        }
        x.line(0, 3);
        x.line(3, 4);
        x.line(4, 5);
        x.line(5, 1);
        x.line(3, 2);
    }

    /** Twelve nodes in a ring, lines 0 .. 11; causes: cut of line 0, 1, ..; looks: cable of line 0, 1, .. at the prices. */
    static NetSchool cables(int causes, int... prices) {
        NetSchool x = net(0, 1, 1, 1, 1, 1, 1, 1, 1, 1, 1, 1);
        for (int i = 1; i < 12; i++) {
            x.line(i - 1, i);
        }
        x.line(0, 11);
        for (int i = 0; i < causes; i++) {
            x.fault(0, i, 0, 0);
            x.cause(i, -1);
        }
        for (int i = 0; i < prices.length; i++) {
            x.look(4, i, 0, 0, prices[i]);
        }
        return x;
    }

    /** The small net; causes 0: line 2 cut, 1: line 3 cut, 2: both, 3: service 0 of host 1; ping and two cables. */
    static NetSchool school() {
        NetSchool x = new NetSchool();
        addSchool(x);
        return x;
    }

    static void addSchool(NetSchool x) {
        addSmallNet(x);
        x.fault(0, 2, 0, 0);
        x.fault(0, 3, 0, 0);
        x.fault(5, 1, 0, 0);
        x.cause(0, -1);
        x.cause(1, -1);
        x.cause(0, 1);
        x.cause(2, -1);
        x.look(0, 0, 1, 0, 5);
        x.look(4, 2, 0, 0, 7);
        x.look(4, 3, 0, 0, 8);
    }
}
