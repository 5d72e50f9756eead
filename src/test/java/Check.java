import java.util.NoSuchElementException;

/** Counts answers that are not as due; what a test needs to build its nets. */
final class Check {
    private final String test;
    private int asked = 0;
    private int wrong = 0;

    Check(String test) {
        this.test = test;
    }

    void due(String call, int want, int got) {
        asked++;
        if (want != got) {
            wrong++;
            System.out.println(test + ": " + call + " answered " + got + ", due is " + want);
        }
    }

    void due(String call, boolean want, boolean got) {
        due(call, want ? 1 : 0, got ? 1 : 0);
    }

    void dueRow(String call, NetSchool x, int... want) {
        due(call + " count(5)", want.length, x.count(5));
        for (int i = 0; i < want.length && i < x.count(5); i++) {
            due(call + " row(" + i + ")", want[i], x.row(i));
        }
        dueNoRow(call, x, want.length);
        dueNoRow(call, x, -1);
    }

    void dueNoRow(String call, NetSchool x, int i) {
        boolean thrown = false;
        try {
            x.row(i);
        } catch (NoSuchElementException e) {
            thrown = true;
        }
        due(call + " row(" + i + ") throws", true, thrown);
    }

    void dueNoAnswer(NetSchool x, int look, int cause) {
        boolean thrown = false;
        try {
            x.answer(look, cause);
        } catch (NoSuchElementException e) {
            thrown = true;
        }
        due("answer(" + look + ", " + cause + ") throws", true, thrown);
    }

    void end() {
        System.out.println(test + ": " + asked + " asked, " + wrong + " wrong");
        if (wrong != 0 || asked == 0) {
            System.exit(1);
        }
    }

    /** Nodes of these kinds, 0, 1, .. in their order. */
    static NetSchool net(int... kinds) {
        NetSchool x = new NetSchool();
        for (int kind : kinds) {
            x.node(kind);
        }
        return x;
    }

    /** Hosts 0, 1, 2; switch 3; router 4; wall 5; lines 0: 0-3, 1: 3-4, 2: 4-5, 3: 5-1, 4: 3-2. */
    static NetSchool smallNet() {
        NetSchool x = net(0, 0, 0, 1, 2, 3);
        x.line(0, 3);
        x.line(3, 4);
        x.line(4, 5);
        x.line(5, 1);
        x.line(3, 2);
        return x;
    }
}
