/** Promises 12 to 22: faults, causes, looks. */
public final class DoctorTest {
    private static final Check C = new Check("DoctorTest");
    private static final int[] FAR = {Integer.MIN_VALUE, -2, 12, 31, 32, 33, 4096, Integer.MAX_VALUE};

    public static void main(String[] args) {
        promise12Fault();
        promise13Cause();
        promise14Look();
        promise15Answer();
        answersOfCalls();
        theSecondFaultHolds();
        bothFaultsHold();
        promise16Goes();
        lettersAreLost();
        promise17Unlike();
        promise18Fair();
        promise19Groups();
        promise20Worst();
        worstOfTwelve();
        promise21Tells();
        promise22First();
        tablesAreNewBehindChanges();
        C.end();
    }

    private static void promise12Fault() {
        NetSchool x = Check.smallNet();
        int[][] refused = {
            {-1, 0, 0, 0}, {6, 0, 0, 0}, {Integer.MAX_VALUE, 0, 0, 0},
            {0, 5, 0, 0}, {0, -1, 0, 0},
            {1, 3, 0, 0}, {1, 4, 0, 0}, {1, 6, 0, 0}, {1, -1, 0, 0},
            {2, 6, 0, 0}, {2, -1, 0, 0}, {2, 0, 3, 0}, {2, 0, -1, 0}, {2, 0, 6, 0},
            {3, 4, 1, 2}, {3, 3, 1, 2}, {3, 0, 1, 2}, {3, 5, 3, 2}, {3, 5, 1, 4}, {3, 5, 1, -1}, {3, 6, 1, 0},
            {4, 3, 1, 2}, {4, 0, 1, 2}, {4, 4, 3, 2}, {4, 4, 1, 4}, {4, 5, 1, 5}, {4, 4, 1, 6}, {4, 4, 1, -1},
            {5, 3, 0, 0}, {5, 1, 4, 0}, {5, 1, -1, 0}, {5, -1, 0, 0},
        };
        for (int[] r : refused) {
            C.due("fault refused " + r[0] + " " + r[1] + " " + r[2] + " " + r[3], -1, x.fault(r[0], r[1], r[2], r[3]));
        }
        for (int far : FAR) {
            for (int kind = 0; kind < 6; kind++) {
                C.due("fault of a far", -1, x.fault(kind, far, 0, 0));
            }
            C.due("fault name far", -1, x.fault(2, 0, far, 0));
            C.due("fault wall far", -1, x.fault(3, 5, far, 0));
            C.due("fault wall far service", -1, x.fault(3, 5, 0, far));
            C.due("fault route far", -1, x.fault(4, 4, far, 0));
            C.due("fault route far next", -1, x.fault(4, 4, 0, far));
            C.due("fault service far", -1, x.fault(5, 0, far, 0));
        }
        int[][] kept = {
            {0, 4, 99, -99}, {1, 2, 99, -99}, {2, 5, 0, 99}, {3, 5, 0, 3}, {4, 4, 1, 0}, {4, 5, 2, 4}, {5, 2, 3, 99},
        };
        for (int i = 0; i < 12; i++) {
            int[] k = kept[i % kept.length];
            C.due("fault " + i, i, x.fault(k[0], k[1], k[2], k[3]));
        }
        C.due("a thirteenth fault", -1, x.fault(0, 0, 0, 0));
        C.due("count(2)", 12, x.count(2));
        x.cause(0, -1);
        x.begin(0);
        x.fault(0, 0, 0, 0);
        C.due("a refused fault ends no lesson", 1, x.count(6));
    }

    private static void promise13Cause() {
        NetSchool x = Check.smallNet();
        x.fault(0, 0, 0, 0);
        x.fault(0, 1, 0, 0);
        C.due("cause(2, -1)", -1, x.cause(2, -1));
        C.due("cause(-1, -1)", -1, x.cause(-1, -1));
        C.due("cause(-1, 0)", -1, x.cause(-1, 0));
        C.due("cause(0, 0)", -1, x.cause(0, 0));
        C.due("cause(0, 2)", -1, x.cause(0, 2));
        C.due("cause(0, -2)", -1, x.cause(0, -2));
        for (int far : FAR) {
            C.due("cause(far, -1)", -1, x.cause(far, -1));
            C.due("cause(0, far)", -1, x.cause(0, far));
        }
        C.due("cause(0, -1)", 0, x.cause(0, -1));
        C.due("cause(0, -1) again", 1, x.cause(0, -1));
        C.due("cause(0, 1)", 2, x.cause(0, 1));
        C.due("cause(1, 0)", 3, x.cause(1, 0));
        x.begin(0);
        C.due("cause(1, 1) in a lesson", -1, x.cause(1, 1));
        C.due("refused ends no lesson", 1, x.count(6));
        C.due("cause in a lesson", 4, x.cause(1, -1));
        C.due("it ends it", 0, x.count(6));
        for (int i = 5; i < 12; i++) {
            C.due("cause", i, x.cause(1, -1));
        }
        C.due("a thirteenth cause", -1, x.cause(1, -1));
        C.due("count(3)", 12, x.count(3));
        x.begin(0);
        x.fault(0, 2, 0, 0);
        C.due("a fault ends the lesson", 0, x.count(6));
    }

    private static void promise14Look() {
        NetSchool x = Check.smallNet();
        int[][] refused = {
            {-1, 0, 1, 0}, {5, 0, 1, 0}, {0, 0, 0, 0}, {0, 0, 3, 0}, {0, 3, 0, 0}, {0, 0, 6, 0}, {0, -1, 0, 0},
            {1, 1, 1, 0}, {1, 0, 4, 0}, {1, 5, 0, 0},
            {2, 3, 0, 0}, {2, 0, 6, 0}, {2, 0, -1, 0}, {2, 0, 0, 4}, {2, 0, 0, -1}, {2, 6, 0, 0},
            {3, 3, 1, 0}, {3, 0, 1, 0}, {3, 4, 3, 0}, {3, 4, -1, 0}, {3, 6, 1, 0},
            {4, 5, 0, 0}, {4, -1, 0, 0},
        };
        for (int[] r : refused) {
            C.due("look refused " + r[0] + " " + r[1] + " " + r[2] + " " + r[3], -1, x.look(r[0], r[1], r[2], r[3], 1));
        }
        for (int far : FAR) {
            for (int kind = 0; kind < 5; kind++) {
                C.due("look of a far", -1, x.look(kind, far, 0, 0, 1));
            }
            for (int kind = 0; kind < 3; kind++) {
                C.due("look of b far", -1, x.look(kind, 0, far, 0, 1));
            }
            C.due("look table far", -1, x.look(3, 4, far, 0, 1));
            C.due("look call far", -1, x.look(2, 0, 0, far, 1));
        }
        C.due("price 0", -1, x.look(0, 0, 1, 0, 0));
        C.due("price 101", -1, x.look(0, 0, 1, 0, 101));
        C.due("price least", -1, x.look(0, 0, 1, 0, Integer.MIN_VALUE));
        C.due("price 1, c of no meaning", 0, x.look(0, 0, 1, 77, 1));
        C.due("price 100", 1, x.look(1, 1, 0, -77, 100));
        C.due("call", 2, x.look(2, 2, 5, 3, 50));
        C.due("table of router", 3, x.look(3, 4, 1, 9, 50));
        C.due("table of wall", 4, x.look(3, 5, 1, 9, 50));
        C.due("cable", 5, x.look(4, 4, 99, -99, 50));
        for (int i = 6; i < 12; i++) {
            C.due("look", i, x.look(4, 0, 0, 0, 1));
        }
        C.due("a thirteenth look", -1, x.look(4, 0, 0, 0, 1));
        C.due("count(4)", 12, x.count(4));
    }

    private static void promise15Answer() {
        NetSchool x = Check.smallNet();
        x.fault(0, 2, 0, 0);
        x.fault(1, 1, 0, 0);
        x.fault(3, 5, 1, 0);
        x.fault(4, 4, 1, 3);
        x.fault(5, 1, 0, 0);
        x.fault(3, 5, 0, 0);
        for (int i = 0; i < 6; i++) {
            x.cause(i, -1);
        }
        x.look(0, 0, 1, 0, 1);
        x.look(0, 1, 0, 0, 1);
        x.look(1, 0, 1, 0, 1);
        x.look(1, 1, 0, 0, 1);
        x.look(3, 4, 1, 0, 1);
        x.look(4, 2, 0, 0, 1);
        int[][] want = {
            {1, 0, 0, 0, 0, 1, 0},
            {1, 0, 0, 0, 0, 1, 0},
            {104, 2, 4, 3, 30, 104, 104},
            {104, 1, 104, 104, 104, 104, 1},
            {5, 5, 5, 5, 3, 5, 5},
            {1, 0, 1, 1, 1, 1, 1},
        };
        for (int look = 0; look < want.length; look++) {
            for (int cause = -1; cause < 6; cause++) {
                C.due("answer(" + look + ", " + cause + ")", want[look][cause + 1], x.answer(look, cause));
            }
        }
        for (int far : FAR) {
            C.dueNoAnswer(x, far, -1);
            C.dueNoAnswer(x, far, 0);
            C.dueNoAnswer(x, 0, far);
        }
        C.dueNoAnswer(x, 6, -1);
        C.dueNoAnswer(x, -1, -1);
        C.dueNoAnswer(x, 0, 6);
        x = Check.net(0, 2, 0);
        x.look(3, 1, 0, 0, 1);
        x.look(1, 0, 2, 0, 1);
        x.look(0, 0, 2, 0, 1);
        C.due("table of no way", 99, x.answer(0, -1));
        C.due("trace of no way", 0, x.answer(1, -1));
        C.due("ping of no way", 0, x.answer(2, -1));
    }

    private static void answersOfCalls() {
        NetSchool x = Check.smallNet();
        x.name(0, 1);
        x.name(1, 2);
        x.name(2, 0);
        x.namer(2);
        x.look(2, 0, 0, 2, 1);
        x.look(2, 2, 0, 2, 1);
        x.look(2, 2, 1, 2, 1);
        x.look(2, 0, 2, 2, 1);
        x.look(2, 0, 3, 2, 1);
        x.look(2, 1, 0, 2, 1);
        x.fault(0, 4, 0, 0);
        x.fault(1, 2, 0, 0);
        x.fault(1, 0, 0, 0);
        x.fault(2, 0, 0, 0);
        x.fault(2, 3, 2, 0);
        x.fault(3, 5, 1, 2);
        x.fault(3, 5, 2, 1);
        x.fault(5, 2, 1, 0);
        x.fault(5, 1, 2, 0);
        x.fault(1, 1, 0, 0);
        for (int i = 0; i < 10; i++) {
            x.cause(i, -1);
        }
        int[][] want = {
            {11, 1, 1, 1, 10, 11, 3, 11, 1, 4, 3},
            {11, 3, 3, 11, 10, 11, 3, 11, 1, 4, 3},
            {12, 12, 12, 12, 12, 12, 12, 12, 1, 12, 12},
            {10, 1, 1, 1, 10, 10, 10, 10, 1, 10, 10},
            {2, 1, 1, 1, 2, 12, 2, 2, 1, 2, 2},
            {11, 1, 1, 11, 10, 11, 11, 1, 1, 4, 1},
        };
        for (int look = 0; look < want.length; look++) {
            for (int cause = -1; cause < 10; cause++) {
                C.due("call " + look + " by " + cause, want[look][cause + 1], x.answer(look, cause));
            }
        }
        x.namer(-1);
        C.due("no namer, no name", 1, x.answer(4, -1));
    }

    private static void theSecondFaultHolds() {
        NetSchool x = Check.smallNet();
        x.namer(2);
        x.name(0, 1);
        x.route(4, 1, 5);
        x.fault(2, 0, 0, 0);
        x.fault(2, 0, 2, 0);
        x.fault(4, 4, 1, 3);
        x.fault(4, 4, 1, 0);
        x.cause(0, 1);
        x.cause(1, 0);
        x.cause(2, 3);
        x.cause(3, 2);
        x.look(2, 0, 0, 0, 1);
        x.look(3, 4, 1, 0, 1);
        C.due("name 0 then 2", 12, x.answer(0, 0));
        C.due("name 2 then 0", 10, x.answer(0, 1));
        C.due("route 3 then 0", 0, x.answer(1, 2));
        C.due("route 0 then 3", 3, x.answer(1, 3));
        C.due("well in between", 11, x.answer(0, -1));
        C.due("well route in between", 5, x.answer(1, -1));
        x.begin(0);
        x.mend(1);
        C.due("the first holds when the second is mended", 10, x.use(0));
    }

    private static void bothFaultsHold() {
        NetSchool x = Check.smallNet();
        for (int host = 0; host < 2; host++) {
            x.fault(1, host, 0, 0);
            x.fault(5, host, 2, 0);
            x.fault(3, 5, host, 3);
        }
        x.cause(0, 3);
        x.cause(1, 4);
        x.cause(2, 5);
        x.look(1, 0, 1, 0, 1);
        x.look(1, 1, 0, 0, 1);
        C.due("one astray", 4, x.answer(0, 0));
        C.due("the other astray", 4, x.answer(1, 0));
        C.due("both walled", 4, x.goes(2, 3, 0, 1));
        C.due("both walled", 2, x.goes(2, 3, 1, 0));
        x.namer(2);
        for (int host = 0; host < 2; host++) {
            x.name(host, host);
            x.look(2, 2, host, 2, 1);
            C.due("neither is on", 4, x.answer(2 + host, 1));
        }
    }

    private static void promise16Goes() {
        NetSchool x = Check.smallNet();
        x.fault(0, 3, 0, 0);
        x.fault(1, 1, 0, 0);
        x.cause(0, -1);
        x.cause(1, -1);
        C.due("goes", 5, x.goes(-1, 0, 0, 1));
        C.dueRow("goes", x, 0, 3, 4, 5, 1);
        C.due("goes with the cable cut", 4, x.goes(0, 0, 0, 1));
        C.dueRow("goes with the cable cut", x, 0, 3, 4, 5);
        C.due("goes to one astray", 5, x.goes(1, 0, 0, 1));
        C.due("goes back from one astray", 5, x.goes(1, 0, 1, 0));
        C.dueRow("goes back", x, 1, 5, 4, 3, 0);
        C.due("service 4", -1, x.goes(-1, 4, 0, 1));
        C.due("service -1", -1, x.goes(-1, -1, 0, 1));
        C.due("to a switch", -1, x.goes(-1, 0, 0, 3));
        C.due("from a router", -1, x.goes(-1, 0, 4, 0));
        C.due("one host alone", -1, x.goes(-1, 0, 0, 0));
        C.due("cause 2", -1, x.goes(2, 0, 0, 1));
        for (int far : FAR) {
            C.due("goes(far)", -1, x.goes(far, 0, 0, 1));
            C.due("goes service far", -1, x.goes(-1, far, 0, 1));
            C.due("goes from far", -1, x.goes(-1, 0, far, 1));
            C.due("goes to far", -1, x.goes(-1, 0, 0, far));
        }
        C.dueRow("refused calls tell no row", x, 1, 5, 4, 3, 0);
        x.look(1, 0, 1, 0, 1);
        x.answer(0, -1);
        x.node(0);
        C.dueRow("other calls tell no row", x, 1, 5, 4, 3, 0);
        x.begin(0);
        x.goes(0, 0, 0, 1);
        C.due("goes ends no lesson", 1, x.count(6));
    }

    private static void lettersAreLost() {
        NetSchool x = Check.net(0, 0, 0, 2, 2);
        x.line(0, 3);
        x.line(3, 2);
        x.line(3, 4);
        x.line(4, 1);
        C.due("well", 4, x.goes(-1, 0, 0, 1));
        x.route(3, 1, 2);
        C.due("at a host that is neither", 3, x.goes(-1, 0, 0, 1));
        C.dueRow("at a host that is neither", x, 0, 3, 2);
        x.route(3, 1, 1);
        C.due("no line to next", 2, x.goes(-1, 0, 0, 1));
        x.route(3, 1, 0);
        C.due("back at the first one", 31, x.goes(-1, 0, 0, 1));
        C.due("row(29)", 3, x.row(29));
        C.due("row(30)", 0, x.row(30));
        C.dueNoRow("31 nodes", x, 31);
        x.route(3, 1, -1);
        x.route(4, 1, 3);
        C.due("to and fro", 31, x.goes(-1, 0, 0, 1));
        x = Check.net(0, 0);
        C.due("no next", 1, x.goes(-1, 0, 0, 1));
        C.dueRow("no next", x, 0);
        x.line(0, 1);
        C.due("side by side", 2, x.goes(-1, 0, 0, 1));
    }

    private static void promise17Unlike() {
        NetSchool x = Check.cables(3, 5, 6);
        C.due("unlike(0, 1)", 3, x.unlike(0, 1));
        C.due("unlike(0, 2)", 1, x.unlike(0, 2));
        C.due("unlike(2, 1)", 2, x.unlike(2, 1));
        C.due("unlike(1, 1)", 0, x.unlike(1, 1));
        for (int far : FAR) {
            C.due("unlike(far, 0)", -1, x.unlike(far, 0));
            C.due("unlike(0, far)", -1, x.unlike(0, far));
        }
        C.due("unlike(3, 0)", -1, x.unlike(3, 0));
        C.due("unlike(0, 3)", -1, x.unlike(0, 3));
        C.due("unlike(-1, 0)", -1, x.unlike(-1, 0));
        C.due("unlike(0, -1)", -1, x.unlike(0, -1));
        x = Check.cables(12, 1, 1, 1, 1, 1, 1, 1, 1, 1, 1, 1, 1);
        C.due("unlike(0, 11)", 1 | 1 << 11, x.unlike(0, 11));
    }

    private static void promise18Fair() {
        NetSchool x = Check.cables(1);
        C.due("fair of one cause", 0, x.fair());
        x = Check.cables(3, 5, 6);
        C.due("fair", 0, x.fair());
        C.due("no row told", 0, x.count(5));
        x = Check.cables(4, 5, 6);
        C.due("not fair", 1, x.fair());
        C.dueRow("not fair", x, 2, 3);
        x.look(4, 2, 0, 0, 1);
        C.due("fair again", 0, x.fair());
        C.dueRow("fair tells no row", x, 2, 3);
        x = Check.cables(5);
        C.due("no look", 1, x.fair());
        C.dueRow("no look", x, 0, 1);
        x = Check.cables(5, 3);
        x.cause(0, -1);
        C.due("two pairs", 1, x.fair());
        C.dueRow("the pair of the least first one", x, 0, 5);
    }

    private static void promise19Groups() {
        NetSchool x = Check.cables(0, 5);
        C.due("groups of no cause", 0, x.groups(0));
        x.fault(0, 1, 0, 0);
        x.cause(0, -1);
        C.due("groups of one cause", 1, x.groups(0));
        C.due("groups(1)", -1, x.groups(1));
        C.due("groups(-1)", -1, x.groups(-1));
        for (int far : FAR) {
            C.due("groups(far)", -1, x.groups(far));
        }
        x = Check.smallNet();
        for (int line = 0; line < 5; line++) {
            x.fault(0, line, 0, 0);
            x.cause(line, -1);
        }
        x.look(1, 0, 1, 0, 1);
        x.look(0, 0, 1, 0, 1);
        x.look(3, 4, 1, 0, 1);
        C.due("groups of trace", 5, x.groups(0));
        C.due("groups of ping", 2, x.groups(1));
        C.due("groups of table", 1, x.groups(2));
    }

    private static void promise20Worst() {
        NetSchool x = Check.cables(4, 10, 20, 30);
        C.due("worst(15)", 60, x.worst(15));
        C.due("worst(1)", 0, x.worst(1));
        C.due("worst(3)", 10, x.worst(3));
        C.due("worst(6)", 20, x.worst(6));
        C.due("worst(12)", 30, x.worst(12));
        C.due("worst(7)", 30, x.worst(7));
        C.due("worst(0)", -1, x.worst(0));
        C.due("worst(16)", -1, x.worst(16));
        C.due("worst(17)", -1, x.worst(17));
        C.due("worst(-1)", -1, x.worst(-1));
        C.due("worst(least)", -1, x.worst(Integer.MIN_VALUE));
        C.due("worst(greatest)", -1, x.worst(Integer.MAX_VALUE));
        x = Check.cables(3);
        C.due("worst of no looks", 0, x.worst(7));
        x = Check.cables(3, 4);
        C.due("two stay unparted", 4, x.worst(7));
        C.due("none parts", 0, x.worst(6));
        x = Check.cables(3, 100, 100);
        x.look(0, 0, 2, 0, 1);
        C.due("pings are of one host here", 200, x.worst(7));
    }

    private static void worstOfTwelve() {
        NetSchool x = Check.cables(12, 1, 2, 3, 4, 5, 6, 7, 8, 9, 10, 11, 12);
        C.due("worst of all", 66, x.worst(4095));
        C.due("first of all", 0, x.first(4095));
        C.due("tells of all", 0, x.tells(4095));
        C.due("worst(4096)", -1, x.worst(4096));
        x = Check.cables(12, 100, 100, 100, 100, 100, 100, 100, 100, 100, 100, 100, 100);
        C.due("the dearest", 1100, x.worst(4095));
    }

    /** Causes: cut of lines 0 .. 4 of the small net; traces part more than cables. */
    private static NetSchool traces() {
        NetSchool x = Check.smallNet();
        for (int line = 0; line < 5; line++) {
            x.fault(0, line, 0, 0);
            x.cause(line, -1);
        }
        return x;
    }

    private static void promise21Tells() {
        NetSchool x = traces();
        C.due("no look tells", -1, x.tells(31));
        x.look(4, 4, 0, 0, 1);
        x.look(0, 0, 2, 0, 3);
        x.look(0, 0, 1, 0, 2);
        x.look(1, 0, 1, 0, 90);
        C.due("the trace tells most", 3, x.tells(31));
        C.due("the trace also of three", 3, x.tells(19));
        C.due("of equal ones the least price", 1, x.tells(3));
        C.due("of four equal ones the least price", 0, x.tells(24));
        C.due("one alone parts", 3, x.tells(12));
        C.due("tells(0)", -1, x.tells(0));
        C.due("tells(32)", -1, x.tells(32));
        C.due("tells(-1)", -1, x.tells(-1));
        C.due("tells of one", -1, x.tells(8));
        C.due("tells of the first one", -1, x.tells(1));
        x = Check.cables(4, 7, 7, 7);
        C.due("then the least number", 0, x.tells(15));
        C.due("then the least number that parts", 1, x.tells(6));
        x = Check.cables(4, 7, 6, 6);
        C.due("the least price, then number", 1, x.tells(15));
        C.due("none parts the two", -1, Check.cables(4, 7, 6).tells(12));
    }

    private static void promise22First() {
        C.due("first ahead of any other call", 1, Check.cables(4, 30, 20, 10).first(3));
        NetSchool x = Check.cables(4, 30, 20, 10);
        C.due("worst", 60, x.worst(15));
        C.due("the least number of equal ways", 0, x.first(15));
        C.due("first(3)", 1, x.first(3));
        C.due("first of one", -1, x.first(4));
        C.due("first(0)", -1, x.first(0));
        C.due("first(16)", -1, x.first(16));
        C.due("first(-1)", -1, x.first(-1));
        C.due("no look parts", -1, Check.cables(4, 7, 6).first(12));
        x = traces();
        x.look(1, 0, 1, 0, 90);
        x.look(4, 0, 0, 0, 10);
        x.look(4, 1, 0, 0, 10);
        x.look(4, 2, 0, 0, 10);
        x.look(4, 3, 0, 0, 10);
        C.due("many cheap looks", 40, x.worst(31));
        C.due("first of many cheap looks", 1, x.first(31));
        C.due("but the trace tells most", 0, x.tells(31));
        x = traces();
        x.look(4, 4, 0, 0, 3);
        x.look(1, 0, 1, 0, 10);
        C.due("the trace alone is enough", 10, x.worst(31));
        C.due("not the least number that parts", 1, x.first(31));
    }

    private static void tablesAreNewBehindChanges() {
        NetSchool x = Check.cables(3, 5, 6);
        C.due("worst before", 11, x.worst(7));
        x.look(4, 2, 0, 0, 1);
        C.due("worst with one look more", 6, x.worst(7));
        x = Check.smallNet();
        x.fault(0, 2, 0, 0);
        x.fault(0, 3, 0, 0);
        x.cause(0, -1);
        x.cause(1, -1);
        x.look(1, 0, 1, 0, 4);
        C.due("unlike before", 1, x.unlike(0, 1));
        C.due("groups before", 2, x.groups(0));
        x.line(3, 1);
        C.due("unlike behind a line", 0, x.unlike(0, 1));
        C.due("groups behind a line", 1, x.groups(0));
        x.cause(0, 1);
        C.due("unlike of a new cause", 0, x.unlike(0, 2));
        x = Check.smallNet();
        x.fault(0, 2, 0, 0);
        x.fault(0, 3, 0, 0);
        x.cause(0, -1);
        x.cause(1, -1);
        x.look(1, 0, 1, 0, 4);
        C.due("worst before a route", 4, x.worst(3));
        x.route(4, 1, 3);
        C.due("worst behind a route", 0, x.worst(3));
        x.route(4, 1, -1);
        C.due("worst behind no route", 4, x.worst(3));
        x.deny(5, 1, 0, true);
        C.due("worst behind a denial", 4, x.worst(3));
        C.due("trace up to the wall", 3, x.answer(0, 1));
    }
}
