import java.util.function.Supplier;
import java.util.function.ToIntFunction;

/** What a refused call leaves as it was: of two like objects the one that refused a call goes on as the other one does. */
public final class RefusedTest {
    private static final Check C = new Check("RefusedTest");
    private static final int THROWN = Watch.THROWN;

    private static Supplier<NetSchool> school;

    public static void main(String[] args) {
        school = Watch::inLesson;
        netRefuses();
        faultsCausesLooksRefuse();
        askingRefuses();
        lessonRefuses();
        school = Watch::full;
        fullRefuses();
        school = Watch::betweenLessons;
        withoutLessonRefuses();
        school = NetSchool::new;
        emptyRefuses();
        C.end();
    }

    private static void refuse(String words, int want, ToIntFunction<NetSchool> call) {
        NetSchool x = school.get();
        C.due(words, want, Watch.ask(call, x));
        C.due(words + " again", want, Watch.ask(call, x));
        Watch.dueLike(C, "behind " + words, school.get(), x);
    }

    private static void refuse(String words, boolean want, ToIntFunction<NetSchool> call) {
        refuse(words, want ? 1 : 0, call);
    }

    private static int bit(boolean is) {
        return is ? 1 : 0;
    }

    private static void netRefuses() {
        C.sentence("a refused call of the net");
        for (int kind : new int[] {-1, 4, Integer.MIN_VALUE, Integer.MAX_VALUE}) {
            refuse("node(" + kind + ")", -1, x -> x.node(kind));
        }
        int[][] lines = {{0, 0}, {-1, 0}, {0, -1}, {6, 0}, {0, 6}, {0, 3}, {3, 0}, {5, 5}};
        for (int[] l : lines) {
            refuse("line(" + l[0] + ", " + l[1] + ")", -1, x -> x.line(l[0], l[1]));
        }
        int[][] routes = {
            {0, 1, 3}, {3, 1, 4}, {-1, 1, 3}, {6, 1, 3}, {4, 3, 5}, {4, -1, 3}, {4, 6, 3}, {4, 1, 4}, {4, 1, 6}, {4, 1, -2},
            {5, 0, 5}, {5, 0, 6}, {5, 0, -2}, {3, 0, -1}, {5, 4, -1},
        };
        for (int[] r : routes) {
            refuse("route(" + r[0] + ", " + r[1] + ", " + r[2] + ")", false, x -> bit(x.route(r[0], r[1], r[2])));
        }
        int[][] denials = {
            {0, 1, 0}, {3, 1, 0}, {4, 1, 0}, {-1, 1, 0}, {6, 1, 0}, {5, 3, 0}, {5, 5, 0}, {5, -1, 0}, {5, 6, 0},
            {5, 1, -1}, {5, 1, 4}, {5, 2, -1}, {5, 2, 4}, {5, 2, 35},
        };
        for (int[] d : denials) {
            refuse("deny(" + d[0] + ", " + d[1] + ", " + d[2] + ", true)", false, x -> bit(x.deny(d[0], d[1], d[2], true)));
            refuse("deny(" + d[0] + ", " + d[1] + ", " + d[2] + ", false)", false, x -> bit(x.deny(d[0], d[1], d[2], false)));
        }
        int[][] services = {{3, 0}, {4, 0}, {5, 0}, {6, 0}, {-1, 0}, {1, -1}, {1, 4}, {1, 34}, {1, -30}};
        for (int[] s : services) {
            refuse("on(" + s[0] + ", " + s[1] + ", true)", false, x -> bit(x.on(s[0], s[1], true)));
            refuse("on(" + s[0] + ", " + s[1] + ", false)", false, x -> bit(x.on(s[0], s[1], false)));
        }
        int[][] names = {{-1, 1}, {6, 1}, {-1, -1}, {6, -1}, {0, 3}, {0, 6}, {0, -2}};
        for (int[] n : names) {
            refuse("name(" + n[0] + ", " + n[1] + ")", false, x -> bit(x.name(n[0], n[1])));
        }
        for (int host : new int[] {-2, 3, 4, 5, 6}) {
            refuse("namer(" + host + ")", false, x -> bit(x.namer(host)));
        }
    }

    private static void faultsCausesLooksRefuse() {
        C.sentence("a refused call of faults, causes, looks");
        int[][] faults = {
            {-1, 0, 0, 0}, {6, 0, 0, 0}, {0, 5, 0, 0}, {0, -1, 0, 0}, {1, 3, 0, 0}, {2, 6, 0, 0}, {2, 0, 3, 0}, {2, 0, -1, 0},
            {3, 4, 1, 0}, {3, 5, 3, 0}, {3, 5, 1, 4}, {4, 3, 1, 4}, {4, 4, 3, 5}, {4, 4, 1, 4}, {4, 4, 1, -1}, {5, 3, 0, 0}, {5, 1, 4, 0},
        };
        for (int[] f : faults) {
            refuse("fault(" + f[0] + ", " + f[1] + ", " + f[2] + ", " + f[3] + ")", -1, x -> x.fault(f[0], f[1], f[2], f[3]));
        }
        int[][] causes = {{-1, -1}, {-1, 0}, {7, -1}, {7, 0}, {0, 7}, {0, -2}, {0, 0}, {6, 6}};
        for (int[] c : causes) {
            refuse("cause(" + c[0] + ", " + c[1] + ")", -1, x -> x.cause(c[0], c[1]));
        }
        int[][] looks = {
            {-1, 0, 1, 0, 1}, {5, 0, 1, 0, 1}, {0, 0, 0, 0, 1}, {0, 0, 3, 0, 1}, {1, 3, 0, 0, 1}, {2, 0, 6, 0, 1}, {2, 0, 0, 4, 1},
            {2, 3, 0, 0, 1}, {3, 3, 1, 0, 1}, {3, 4, 3, 0, 1}, {4, 5, 0, 0, 1}, {0, 0, 1, 0, 0}, {0, 0, 1, 0, 101}, {4, 0, 0, 0, -1},
        };
        for (int[] l : looks) {
            refuse("look of " + l[0] + " at " + l[4], -1, x -> x.look(l[0], l[1], l[2], l[3], l[4]));
        }
    }

    private static void askingRefuses() {
        C.sentence("a refused call that asks");
        for (int far : new int[] {Integer.MIN_VALUE, -2, -1, 12, 31, 32, Integer.MAX_VALUE}) {
            refuse("count(" + far + ")", -1, x -> x.count(far));
            refuse("next(" + far + ", 1, 0)", -1, x -> x.next(far, 1, 0));
            refuse("next(1, " + far + ", 1)", -1, x -> x.next(1, far, 1));
            refuse("next(0, 1, " + far + ")", -1, x -> x.next(0, 1, far));
            refuse("answer(" + far + ", 0)", THROWN, x -> x.answer(far, 0));
            refuse("goes(-1, " + far + ", 0, 1)", -1, x -> x.goes(-1, far, 0, 1));
            refuse("goes(-1, 0, " + far + ", 1)", -1, x -> x.goes(-1, 0, far, 1));
            refuse("goes(-1, 0, 0, " + far + ")", -1, x -> x.goes(-1, 0, 0, far));
            refuse("unlike(" + far + ", 0)", -1, x -> x.unlike(far, 0));
            refuse("unlike(0, " + far + ")", -1, x -> x.unlike(0, far));
            refuse("groups(" + far + ")", -1, x -> x.groups(far));
            refuse("row(" + far + ")", THROWN, x -> x.row(far));
        }
        for (int cause : new int[] {-2, 6, 12, Integer.MAX_VALUE}) {
            refuse("answer(0, " + cause + ")", THROWN, x -> x.answer(0, cause));
            refuse("goes(" + cause + ", 0, 0, 1)", -1, x -> x.goes(cause, 0, 0, 1));
        }
        refuse("next(2, 2, 0)", -1, x -> x.next(2, 2, 0));
        refuse("goes(-1, 0, 2, 2)", -1, x -> x.goes(-1, 0, 2, 2));
        refuse("row(5)", THROWN, x -> x.row(5));
        for (int set : new int[] {Integer.MIN_VALUE, -1, 0, 64, 127, 4096, Integer.MAX_VALUE}) {
            refuse("worst(" + set + ")", -1, x -> x.worst(set));
            refuse("tells(" + set + ")", -1, x -> x.tells(set));
            refuse("first(" + set + ")", -1, x -> x.first(set));
        }
    }

    private static void lessonRefuses() {
        C.sentence("a refused call of a lesson");
        for (int far : new int[] {Integer.MIN_VALUE, -2, -1, 12, 32, 34, Integer.MAX_VALUE}) {
            refuse("begin(" + far + ")", false, x -> bit(x.begin(far)));
            refuse("use(" + far + ")", -2, x -> x.use(far));
            refuse("mend(" + far + ")", -2, x -> x.mend(far));
            refuse("claim(" + far + ")", -2, x -> x.claim(far));
            refuse("mark(" + far + ")", -2, x -> x.mark(far));
        }
        refuse("begin(6)", false, x -> bit(x.begin(6)));
        refuse("use(6)", -2, x -> x.use(6));
        refuse("mend(7)", -2, x -> x.mend(7));
        refuse("mend(3) again", -3, x -> x.mend(3));
        refuse("claim(6)", -2, x -> x.claim(6));
        refuse("mark(6)", -2, x -> x.mark(6));
    }

    private static void fullRefuses() {
        C.sentence("a call that is refused as all is full");
        refuse("node(0)", -1, x -> x.node(0));
        refuse("node(3)", -1, x -> x.node(3));
        refuse("line(0, 1)", -1, x -> x.line(0, 1));
        refuse("line(9, 8)", -1, x -> x.line(9, 8));
        refuse("fault(0, 19)", -1, x -> x.fault(0, 19, 0, 0));
        refuse("fault(4, 11)", -1, x -> x.fault(4, 11, 1, 10));
        refuse("cause(0, -1)", -1, x -> x.cause(0, -1));
        refuse("cause(10, 11)", -1, x -> x.cause(10, 11));
        refuse("look(0, 0, 1)", -1, x -> x.look(0, 0, 1, 0, 1));
        refuse("look(4, 19)", -1, x -> x.look(4, 19, 0, 0, 100));
        refuse("worst(4096)", -1, x -> x.worst(4096));
        refuse("mend(12)", -2, x -> x.mend(12));
        refuse("mend(1)", -3, x -> x.mend(1));
        refuse("row(31)", THROWN, x -> x.row(31));
    }

    private static void withoutLessonRefuses() {
        C.sentence("a call that is refused as there is no LESSON");
        refuse("use(0)", -2, x -> x.use(0));
        refuse("left()", -2, x -> x.left());
        refuse("mend(0)", -2, x -> x.mend(0));
        refuse("well()", -2, x -> x.well());
        refuse("claim(0)", -2, x -> x.claim(0));
        for (int i = 0; i < 6; i++) {
            int what = i;
            refuse("mark(" + what + ")", -2, x -> x.mark(what));
        }
        refuse("begin(6)", false, x -> bit(x.begin(6)));
    }

    private static void emptyRefuses() {
        C.sentence("a call that is refused as there is nothing");
        refuse("line(0, 1)", -1, x -> x.line(0, 1));
        refuse("route(0, 1, -1)", false, x -> bit(x.route(0, 1, -1)));
        refuse("deny(0, 1, 0, true)", false, x -> bit(x.deny(0, 1, 0, true)));
        refuse("on(0, 0, false)", false, x -> bit(x.on(0, 0, false)));
        refuse("name(0, 0)", false, x -> bit(x.name(0, 0)));
        refuse("namer(0)", false, x -> bit(x.namer(0)));
        refuse("next(0, 1, 0)", -1, x -> x.next(0, 1, 0));
        refuse("fault(2, 0, 0, 0)", -1, x -> x.fault(2, 0, 0, 0));
        refuse("cause(0, -1)", -1, x -> x.cause(0, -1));
        refuse("look(2, 0, 0, 0, 1)", -1, x -> x.look(2, 0, 0, 0, 1));
        refuse("answer(0, -1)", THROWN, x -> x.answer(0, -1));
        refuse("goes(-1, 0, 0, 1)", -1, x -> x.goes(-1, 0, 0, 1));
        refuse("unlike(0, 0)", -1, x -> x.unlike(0, 0));
        refuse("groups(0)", -1, x -> x.groups(0));
        refuse("worst(1)", -1, x -> x.worst(1));
        refuse("tells(1)", -1, x -> x.tells(1));
        refuse("first(1)", -1, x -> x.first(1));
        refuse("begin(0)", false, x -> bit(x.begin(0)));
        refuse("row(0)", THROWN, x -> x.row(0));
    }
}
