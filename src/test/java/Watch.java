import java.util.ArrayList;
import java.util.List;
import java.util.NoSuchElementException;
import java.util.function.ToIntFunction;

/** Watches two objects that should be alike: each is asked for all that it tells, and then goes on in the same way. */
final class Watch {
    /** Stands for the exception that a call throws. */
    static final int THROWN = -7777;
    /** Of the 512 calls that an object is used for; the others are left to those that fill it. */
    private static final int MOST_CALLS = 380;

    private Watch() {
    }

    static NetSchool betweenLessons() {
        NetSchool x = new NetSchool();
        tellAll(x);
        return x;
    }

    /** The small net with all told that can be, faults of each kind, causes, looks and a row. */
    static void tellAll(NetSchool x) {
        Check.addSchool(x);
        x.route(4, 2, 0);
        x.deny(5, 2, 3, true);
        x.on(1, 2, false);
        x.name(0, 1);
        x.name(1, 0);
        x.namer(2);
        x.fault(1, 0, 0, 0);
        x.fault(2, 0, 0, 0);
        x.fault(3, 5, 1, 0);
        x.fault(4, 4, 1, 3);
        x.cause(3, 4);
        x.cause(5, 6);
        x.look(1, 0, 1, 0, 3);
        x.look(2, 0, 0, 3, 4);
        x.look(3, 4, 1, 0, 2);
        x.goes(-1, 0, 1, 2);
    }

    /** A lesson in which all was done. */
    static NetSchool inLesson() {
        NetSchool x = betweenLessons();
        x.begin(2);
        x.use(0);
        x.claim(0);
        x.mend(3);
        return x;
    }

    /** Twelve nodes, twenty lines, twelve faults, causes and looks, thirty-one numbers of the row, a lesson. */
    static NetSchool full() {
        NetSchool x = Check.net(0, 0, 0, 1, 1, 1, 1, 1, 1, 1, 2, 3);
        x.line(0, 10);
        x.line(10, 11);
        x.line(11, 1);
        x.line(11, 2);
        for (int a = 3; a < 12; a++) {
            for (int b = a + 1; b < 12; b++) {
                x.line(a, b);
            }
        }
        for (int i = 0; i < 12; i++) {
            x.fault(0, i, 0, 0);
            x.cause(i, -1);
            x.look(i % 2 == 0 ? 4 : 1, i % 2 == 0 ? i : 0, 1 + i % 2, 0, 1 + i);
        }
        x.route(11, 1, 10);
        x.goes(-1, 0, 0, 1);
        x.begin(11);
        x.use(3);
        x.mend(1);
        return x;
    }

    static void dueLike(Check c, String when, NetSchool want, NetSchool got) {
        List<String> due = all(want);
        List<String> seen = all(got);
        c.due(when + ": calls enough for a watch", true, due.size() < MOST_CALLS);
        for (int i = 0; i < due.size(); i++) {
            if (i >= seen.size() || !due.get(i).equals(seen.get(i))) {
                c.due(when + ": not " + due.get(i) + " but " + (i < seen.size() ? seen.get(i) : "nothing"), 0, 1);
                return;
            }
        }
        c.due(when + ": all is like", due.size(), seen.size());
    }

    static int ask(ToIntFunction<NetSchool> call, NetSchool x) {
        try {
            return call.applyAsInt(x);
        } catch (NoSuchElementException e) {
            return THROWN;
        }
    }

    private static void note(List<String> seen, String words, NetSchool x, ToIntFunction<NetSchool> call) {
        seen.add(words + ": " + ask(call, x));
    }

    /** Asks an object for all that it tells, at first without a change to it. */
    private static List<String> all(NetSchool x) {
        List<String> seen = new ArrayList<>();
        for (int i = 0; i < 7; i++) {
            int what = i;
            note(seen, "count(" + what + ")", x, o -> o.count(what));
            note(seen, "mark(" + what + ")", x, o -> o.mark(what));
        }
        note(seen, "left()", x, o -> o.left());
        note(seen, "well()", x, o -> o.well());
        for (int i = 0, n = x.count(5); i <= n; i++) {
            int at = i;
            note(seen, "row(" + at + ")", x, o -> o.row(at));
        }
        if (x.count(0) == 0) {
            // what an empty object keeps in secret is seen when it is filled
            tellAll(x);
        }
        watchNet(seen, x);
        watchLooks(seen, x);
        watchLesson(seen, x);
        watchBuilding(seen, x);
        return seen;
    }

    private static void watchNet(List<String> seen, NetSchool x) {
        for (int i = 0, n = x.count(0); i < n; i++) {
            int a = i;
            for (int host = 0; host < 3; host++) {
                int b = host;
                note(seen, "next(" + a + ", " + b + ", 0)", x, o -> o.next(a, b, 0));
                note(seen, "next(" + a + ", " + (b + 3) + ", 1)", x, o -> o.next(a, b + 3, 1));
            }
        }
        for (int i = 0; i < 24; i++) {
            int service = i % 4;
            int a = i / 4 % 3;
            int b = (a + 1 + i / 12) % 3;
            note(seen, "goes(" + service + ", " + a + ", " + b + ")", x, o -> o.goes(-1, service, a, b));
        }
    }

    private static void watchLooks(List<String> seen, NetSchool x) {
        int causes = x.count(3);
        for (int i = 0, n = x.count(4); i < n; i++) {
            int look = i;
            note(seen, "groups(" + look + ")", x, o -> o.groups(look));
            note(seen, "answer(" + look + ", -1)", x, o -> o.answer(look, -1));
            note(seen, "answer(" + look + ", .)", x, o -> o.answer(look, look % causes));
        }
        for (int i = 0; i < causes; i++) {
            int cause = i;
            note(seen, "unlike(" + cause + ", .)", x, o -> o.unlike(cause, (cause + 1) % causes));
            note(seen, "goes(" + cause + ", .)", x, o -> o.goes(cause, 0, 0, 1));
        }
        for (int i = causes; i > 0; i -= 2) {
            int set = (1 << i) - 1;
            note(seen, "worst(" + set + ")", x, o -> o.worst(set));
            note(seen, "tells(" + set + ")", x, o -> o.tells(set));
            note(seen, "first(" + set + ")", x, o -> o.first(set));
        }
        note(seen, "fair()", x, o -> o.fair());
        note(seen, "count(5)", x, o -> o.count(5));
    }

    private static void watchLesson(List<String> seen, NetSchool x) {
        for (int i = 0, n = x.count(4); i < n; i++) {
            int look = i;
            note(seen, "use(" + look + ")", x, o -> o.use(look));
        }
        note(seen, "left() behind uses", x, o -> o.left());
        for (int i = 0, n = x.count(3); i < n; i++) {
            int cause = i;
            note(seen, "claim(" + cause + ")", x, o -> o.claim(cause));
        }
        for (int i = 0, n = x.count(2); i < n; i++) {
            int fault = i;
            note(seen, "mend(" + fault + ")", x, o -> o.mend(fault));
        }
        for (int i = 0; i < 6; i++) {
            int what = i;
            note(seen, "mark(" + what + ") behind all", x, o -> o.mark(what));
        }
    }

    /** What is built next bears the next number; the names are seen by calls. */
    private static void watchBuilding(List<String> seen, NetSchool x) {
        for (int i = 0; i < 3; i++) {
            int name = i;
            note(seen, "look(2, 0, " + name + ")", x, o -> o.look(2, 0, name, 2, 1));
        }
        for (int i = 0, n = x.count(4); i < n; i++) {
            int look = i;
            note(seen, "answer(" + look + ") at last", x, o -> o.answer(look, -1));
        }
        note(seen, "fault", x, o -> o.fault(0, 0, 0, 0));
        note(seen, "cause", x, o -> o.cause(0, 1));
        note(seen, "line", x, o -> o.line(0, 1));
        note(seen, "node", x, o -> o.node(0));
    }
}
