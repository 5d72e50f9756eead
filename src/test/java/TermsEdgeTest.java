/** The document's terms: each sentence that names a boundary case has a test of its own. */
public final class TermsEdgeTest {
    private static final Check C = new Check("TermsEdgeTest");

    public static void main(String[] args) {
        nodesAtMost12();
        kindsOfNodes();
        linesAtMost20();
        linesBetweenTwo();
        oneLineBetweenTheSameTwo();
        fewestLines();
        noHostPassed();
        theNeighbourMayBeIt();
        ofEqualOnesTheLeast();
        noneIfNoWay();
        nextOfHostOrSwitch();
        nextOfRouterOrWall();
        servicesUpTo3();
        atFirstAllOn();
        atFirstNoneDenied();
        atTheFirstOne();
        lostWithoutNext();
        lostAtAnotherHost();
        lostAtWall();
        lostAtCutLine();
        lostWithoutLine();
        lostBehind30Lines();
        astray();
        letterAndAnswer();
        namesUpTo5();
        namerOrNone();
        faultsAtMost12();
        faultsOfEachKind();
        anyNodeButA();
        causesAtMost12();
        bothHold();
        theSecondOneHolds();
        withoutCauseWell();
        looksAtMost12();
        prices();
        pingAnswers();
        traceAnswers();
        callAnswers1();
        callAnswers2To10();
        tableAnswers();
        cableAnswers();
        parts();
        worstIsNothing();
        worstIsTheLeast();
        leftAheadOfAnyMend();
        endsTheLesson();
        theRowIsToldLast();
        the512thCall();
        C.end();
    }

    private static void nodesAtMost12() {
        C.sentence("NODES 0 .. (at most 12)");
        NetSchool x = new NetSchool();
        for (int i = 0; i < 12; i++) {
            C.due("node " + i, i, x.node(0));
        }
        C.due("a thirteenth", -1, x.node(0));
        C.due("count(0)", 12, x.count(0));
        C.due("a line of the last one", 0, x.line(0, 11));
        C.due("the last one is reached", 2, x.goes(-1, 0, 0, 11));
        C.dueRow("the last one is reached", x, 0, 11);
    }

    private static void kindsOfNodes() {
        C.sentence("KIND 0 HOST, 1 SWITCH, 2 ROUTER, 3 WALL");
        NetSchool x = Check.net(0, 1, 2, 3, 0);
        for (int node = 0; node < 4; node++) {
            C.due(node + " is a HOST", node == 0, x.on(node, 0, true));
            C.due(node + " is a ROUTER or WALL", node >= 2, x.route(node, 4, -1));
            C.due(node + " is a WALL", node == 3, x.deny(node, 4, 0, false));
        }
        for (int kind = 0; kind < 4; kind++) {
            x = Check.net(kind, 0);
            C.due("the first one is a HOST", kind == 0, x.on(0, 0, true));
            C.due("the first one is a ROUTER or WALL", kind >= 2, x.route(0, 1, -1));
            C.due("the first one is a WALL", kind == 3, x.deny(0, 1, 0, false));
        }
    }

    /** Seven nodes, each two of them in a line, as long as there are lines. */
    private static NetSchool sevenAllInLine(int... kinds) {
        NetSchool x = Check.net(kinds);
        for (int a = 0; a < 7; a++) {
            for (int b = a + 1; b < 7; b++) {
                x.line(a, b);
            }
        }
        return x;
    }

    private static void linesAtMost20() {
        C.sentence("LINES 0 .. (at most 20)");
        NetSchool x = sevenAllInLine(1, 1, 1, 1, 1, 1, 1);
        C.due("count(1)", 20, x.count(1));
        C.due("the 20th is there", 6, x.next(4, 6, 1));
        C.due("a 21st is not", 0, x.next(5, 6, 1));
        C.due("a look at the last one", 0, x.look(4, 19, 0, 0, 1));
        C.due("a look behind it", -1, x.look(4, 20, 0, 0, 1));
        C.due("a fault of the last one", 0, x.fault(0, 19, 0, 0));
        C.due("a fault behind it", -1, x.fault(0, 20, 0, 0));
        x.cause(0, -1);
        C.due("the last one is cut", 0, x.answer(0, 0));
        C.due("and is not", 1, x.answer(0, -1));
    }

    private static void linesBetweenTwo() {
        C.sentence("each between two NODES");
        NetSchool x = Check.net(0, 1, 2, 3);
        for (int node = 0; node < 4; node++) {
            C.due("from " + node + " to itself", -1, x.line(node, node));
        }
        C.due("none is there", 0, x.count(1));
    }

    private static void oneLineBetweenTheSameTwo() {
        C.sentence("at most one between the same two");
        NetSchool x = Check.net(0, 1, 2);
        C.due("line(2, 0)", 0, x.line(2, 0));
        C.due("line(2, 0) again", -1, x.line(2, 0));
        C.due("line(0, 2)", -1, x.line(0, 2));
        C.due("line(0, 1)", 1, x.line(0, 1));
        C.due("line(1, 0)", -1, x.line(1, 0));
        C.due("line(2, 1)", 2, x.line(2, 1));
        C.due("count(1)", 3, x.count(1));
    }

    private static void fewestLines() {
        C.sentence("of its neighbours the one from which the way to it has the fewest LINES");
        NetSchool x = Check.net(0, 1, 1, 1, 1, 0);
        x.line(0, 1);
        x.line(1, 2);
        x.line(2, 5);
        C.due("the only way", 1, x.next(0, 5, 1));
        x.line(0, 4);
        C.due("a dead end", 1, x.next(0, 5, 1));
        x.line(4, 5);
        C.due("one line fewer, greater number", 4, x.next(0, 5, 1));
        C.due("from the middle", 5, x.next(2, 5, 1));
        C.due("back", 4, x.next(5, 0, 1));
        x = Check.net(0, 1, 1, 1, 1, 1, 1, 1, 1, 1, 1, 0);
        for (int i = 1; i < 12; i++) {
            x.line(i - 1, i);
        }
        C.due("a way of all the nodes", 1, x.next(0, 11, 1));
        C.due("and back", 10, x.next(11, 0, 1));
        C.due("over eleven lines", 12, x.goes(-1, 0, 0, 11));
    }

    private static void noHostPassed() {
        C.sentence("no HOST being passed");
        NetSchool x = Check.net(0, 0, 0, 1, 1, 1, 1);
        x.line(0, 1);
        x.line(1, 2);
        C.due("the neighbour is a HOST", -1, x.next(0, 2, 1));
        x.line(0, 3);
        x.line(3, 1);
        C.due("a HOST behind the neighbour", -1, x.next(0, 2, 1));
        C.due("from a SWITCH past a HOST", -1, x.next(3, 2, 1));
        x.line(3, 4);
        x.line(4, 5);
        x.line(5, 6);
        x.line(6, 2);
        C.due("round it, though it is longer", 3, x.next(0, 2, 1));
        C.due("round it from the SWITCH", 4, x.next(3, 2, 1));
        C.due("not past the last one to itself", 6, x.next(2, 3, 1));
        C.due("to a SWITCH not past a HOST", -1, Check.net(0, 0, 1).next(0, 2, 1));
        x = Check.net(0, 0, 1);
        x.line(0, 1);
        x.line(1, 2);
        C.due("to a SWITCH only past a HOST", -1, x.next(0, 2, 1));
    }

    private static void theNeighbourMayBeIt() {
        C.sentence("the neighbour may be it");
        NetSchool x = Check.net(0, 0, 1, 2, 3);
        x.line(0, 1);
        x.line(0, 2);
        x.line(2, 1);
        x.line(3, 1);
        x.line(4, 1);
        for (int node : new int[] {0, 2, 3, 4}) {
            C.due("a HOST beside " + node, 1, x.next(node, 1, 1));
        }
        C.due("a SWITCH beside", 2, x.next(0, 2, 1));
        C.due("a ROUTER beside", 3, x.next(1, 3, 1));
        C.due("a WALL beside", 4, x.next(1, 4, 1));
    }

    private static void ofEqualOnesTheLeast() {
        C.sentence("of equal ones the least number");
        NetSchool x = Check.net(0, 0, 1, 2, 3);
        x.line(0, 4);
        x.line(4, 1);
        C.due("one way", 4, x.next(0, 1, 1));
        x.line(1, 3);
        x.line(3, 0);
        C.due("of two", 3, x.next(0, 1, 1));
        x.line(2, 0);
        x.line(1, 2);
        C.due("of three", 2, x.next(0, 1, 1));
        C.due("of three back", 2, x.next(1, 0, 1));
        C.due("between SWITCH and ROUTER, no HOST being passed", -1, x.next(2, 3, 1));
    }

    private static void noneIfNoWay() {
        C.sentence("NONE if there is no way");
        NetSchool x = Check.net(0, 0, 1, 1, 2);
        C.due("no line at all", -1, x.next(0, 1, 1));
        x.line(0, 2);
        x.line(1, 3);
        C.due("two nets", -1, x.next(0, 1, 1));
        C.due("NEXT too", -1, x.next(0, 1, 0));
        C.due("from a SWITCH", -1, x.next(2, 1, 0));
        C.due("from a lonely ROUTER", -1, x.next(4, 1, 0));
        C.due("to it", -1, x.next(0, 4, 0));
        x.line(2, 3);
        C.due("a way", 2, x.next(0, 1, 1));
    }

    private static void nextOfHostOrSwitch() {
        C.sentence("NEXT of a NODE for another one: of a HOST or SWITCH NEAREST");
        NetSchool x = Check.smallNet();
        C.due("a HOST is told nothing", false, x.route(0, 1, 2));
        C.due("a SWITCH is told nothing", false, x.route(3, 1, 2));
        C.due("a fault of a HOST's NEXT", -1, x.fault(4, 0, 1, 2));
        C.due("a fault of a SWITCH's NEXT", -1, x.fault(4, 3, 1, 2));
        C.due("of the HOST", 3, x.next(0, 1, 0));
        C.due("of the SWITCH", 4, x.next(3, 1, 0));
    }

    private static void nextOfRouterOrWall() {
        C.sentence("of a ROUTER or WALL what is told by route(), or NEAREST, if nothing is");
        NetSchool x = Check.smallNet();
        C.due("nothing to the ROUTER", 5, x.next(4, 1, 0));
        C.due("nothing to the WALL", 4, x.next(5, 0, 0));
        x.route(4, 1, 0);
        x.route(5, 0, 1);
        C.due("of the ROUTER, no neighbour", 0, x.next(4, 1, 0));
        C.due("of the WALL", 1, x.next(5, 0, 0));
        C.due("for another HOST", 3, x.next(4, 2, 0));
        C.due("of the WALL for another HOST", 4, x.next(5, 2, 0));
        C.due("NEAREST of the ROUTER", 5, x.next(4, 1, 1));
        C.due("NEAREST of the WALL", 4, x.next(5, 0, 1));
        x.route(4, 1, 3);
        C.due("told once more", 3, x.next(4, 1, 0));
        x.route(4, 1, -1);
        C.due("told no more", 5, x.next(4, 1, 0));
        x = Check.net(0, 2);
        x.route(1, 0, 0);
        C.due("told where there is no way", 0, x.next(1, 0, 0));
        C.due("NEAREST where there is no way", -1, x.next(1, 0, 1));
    }

    private static void servicesUpTo3() {
        C.sentence("SERVICES 0 .. 3");
        NetSchool x = Check.smallNet();
        for (int service = -2; service <= 5; service++) {
            boolean is = service >= 0 && service <= 3;
            C.due("on " + service, is, x.on(1, service, true));
            C.due("deny " + service, is, x.deny(5, 1, service, false));
            C.due("goes " + service, is ? 5 : -1, x.goes(-1, service, 0, 1));
            C.due("fault WALL " + service, is, x.fault(3, 5, 1, service) != -1);
            C.due("fault SERVICE " + service, is, x.fault(5, 1, service, 0) != -1);
            C.due("look CALL " + service, is, x.look(2, 0, 0, service, 1) != -1);
        }
    }

    private static void atFirstAllOn() {
        C.sentence("a HOST has some of them ON (at first all)");
        NetSchool x = Check.smallNet();
        x.namer(2);
        for (int host = 0; host < 3; host++) {
            x.name(host, host);
            for (int service = 0; service < 4; service++) {
                C.due("look", host * 4 + service, x.look(2, 0, host, service, 1));
                C.due(service + " of " + host, 10 + host, x.answer(host * 4 + service, -1));
            }
        }
        for (int service : new int[] {0, 2, 3}) {
            x.on(2, service, false);
            C.due(service + " of 2 no more", 4, x.answer(8 + service, -1));
        }
        C.due("but 1 of 2", 12, x.answer(9, -1));
        x.on(2, 1, false);
        C.due("none of 2", 1, x.answer(8, -1));
        x.on(2, 1, true);
        x.on(2, 3, true);
        C.due("3 of 2 again", 12, x.answer(11, -1));
        C.due("0 of 2 not", 4, x.answer(8, -1));
    }

    private static void atFirstNoneDenied() {
        C.sentence("A WALL DENIES some SERVICES to some HOSTS (at first none)");
        NetSchool x = Check.smallNet();
        for (int service = 0; service < 4; service++) {
            C.due("to 1", 5, x.goes(-1, service, 0, 1));
            C.due("to 0", 5, x.goes(-1, service, 1, 0));
            C.due("to 2", 5, x.goes(-1, service, 1, 2));
        }
        x.deny(5, 0, 3, true);
        for (int service = 0; service < 4; service++) {
            C.due("to 1", 5, x.goes(-1, service, 0, 1));
            C.due("to 0", service == 3 ? 2 : 5, x.goes(-1, service, 1, 0));
            C.due("to 2", 5, x.goes(-1, service, 1, 2));
        }
    }

    private static void atTheFirstOne() {
        C.sentence("A LETTER of a SERVICE from a HOST to another one: it is at the first one");
        NetSchool x = Check.net(0, 0, 0);
        C.due("and nowhere else", 1, x.goes(-1, 0, 2, 0));
        C.dueRow("and nowhere else", x, 2);
    }

    private static void lostWithoutNext() {
        C.sentence("It is LOST, if that is NONE");
        NetSchool x = Check.net(0, 1, 0);
        x.line(0, 1);
        x.look(1, 0, 2, 0, 1);
        x.look(0, 0, 2, 0, 1);
        C.due("goes", 1, x.goes(-1, 0, 0, 2));
        C.due("trace", 0, x.answer(0, -1));
        C.due("ping", 0, x.answer(1, -1));
    }

    /** Hosts 0, 1, 2, routers 3 and 4: 0-3, 3-2, 3-4, 4-1; traces from 0 to 1 and back. */
    private static NetSchool twoRouters() {
        NetSchool x = Check.net(0, 0, 0, 2, 2);
        x.line(0, 3);
        x.line(3, 2);
        x.line(3, 4);
        x.line(4, 1);
        x.look(1, 0, 1, 0, 1);
        x.look(1, 1, 0, 0, 1);
        return x;
    }

    private static void lostAtAnotherHost() {
        C.sentence("if it is at a HOST that is neither");
        NetSchool x = twoRouters();
        C.due("well", 103, x.answer(0, -1));
        x.route(3, 1, 2);
        C.due("at 2", 2, x.answer(0, -1));
        x.goes(-1, 0, 0, 1);
        C.dueRow("at 2", x, 0, 3, 2);
        x.route(3, 1, 0);
        C.due("the first one is not neither", 30, x.answer(0, -1));
        C.due("nor is the last one", 103, x.answer(1, -1));
    }

    private static void lostAtWall() {
        C.sentence("if it is at a WALL that DENIES its SERVICE to the last one");
        NetSchool x = Check.net(0, 3, 3, 0, 1, 0);
        x.line(0, 1);
        x.line(1, 2);
        x.line(2, 3);
        x.line(2, 5);
        x.deny(2, 3, 0, true);
        C.due("at the second WALL", 3, x.goes(-1, 0, 0, 3));
        C.dueRow("at the second WALL", x, 0, 1, 2);
        C.due("another SERVICE", 4, x.goes(-1, 1, 0, 3));
        C.due("to another HOST", 4, x.goes(-1, 0, 0, 5));
        C.due("from that HOST", 4, x.goes(-1, 0, 3, 0));
        x.deny(1, 3, 0, true);
        C.due("at the first WALL", 2, x.goes(-1, 0, 0, 3));
        x.deny(1, 3, 0, false);
        x.deny(2, 3, 0, false);
        C.due("at none", 4, x.goes(-1, 0, 0, 3));
    }

    private static void lostAtCutLine() {
        C.sentence("if the LINE to NEXT is CUT");
        NetSchool x = twoRouters();
        for (int line = 0; line < 4; line++) {
            x.fault(0, line, 0, 0);
            x.cause(line, -1);
        }
        C.due("the first line", 0, x.answer(0, 0));
        C.due("a line beside", 103, x.answer(0, 1));
        C.due("the second line", 1, x.answer(0, 2));
        C.due("the last line", 2, x.answer(0, 3));
        C.due("the first line back", 2, x.answer(1, 0));
        C.due("the last line back", 0, x.answer(1, 3));
        x.line(3, 1);
        C.due("a cut line is still a way for NEAREST", 4, x.next(3, 4, 1));
        C.due("another line", 102, x.answer(0, 3));
    }

    private static void lostWithoutLine() {
        C.sentence("(or there is none)");
        NetSchool x = twoRouters();
        x.route(3, 1, 1);
        C.due("none to the last one", 1, x.answer(0, -1));
        x.goes(-1, 0, 0, 1);
        C.dueRow("none to the last one", x, 0, 3);
        x.route(3, 1, -1);
        x.route(4, 1, 0);
        C.due("none to the first one", 2, x.answer(0, -1));
        x.fault(4, 3, 1, 1);
        x.cause(0, -1);
        C.due("none by a fault", 1, x.answer(0, 0));
    }

    private static void lostBehind30Lines() {
        C.sentence("or if it has gone along 30 LINES already");
        NetSchool x = twoRouters();
        x.route(4, 1, 3);
        C.due("trace", 30, x.answer(0, -1));
        C.due("goes", 31, x.goes(-1, 0, 0, 1));
        C.due("count(5)", 31, x.count(5));
        C.due("the first one", 0, x.row(0));
        for (int i = 1; i <= 30; i++) {
            C.due("row(" + i + ")", i % 2 == 1 ? 3 : 4, x.row(i));
        }
        C.dueNoRow("no 31st line", x, 31);
        x.look(0, 0, 1, 0, 1);
        x.look(0, 1, 0, 0, 1);
        C.due("ping", 0, x.answer(2, -1));
        C.due("ping back", 0, x.answer(3, -1));
    }

    private static void astray() {
        C.sentence("At the last one it COMES, unless that is ASTRAY");
        NetSchool x = twoRouters();
        for (int host = 0; host < 3; host++) {
            x.fault(1, host, 0, 0);
            x.cause(host, -1);
        }
        C.due("well", 103, x.answer(0, -1));
        C.due("the first one is astray", 103, x.answer(0, 0));
        C.due("the last one is astray", 3, x.answer(0, 1));
        C.due("another one is astray", 103, x.answer(0, 2));
        C.due("it is at the last one all the same", 4, x.goes(1, 0, 0, 1));
        C.dueRow("it is at the last one all the same", x, 0, 3, 4, 1);
    }

    private static void letterAndAnswer() {
        C.sentence("A LETTER and its ANSWER: both COME; the ANSWER, of the same SERVICE, from the last to the first one");
        NetSchool x = Check.smallNet();
        x.name(0, 1);
        x.namer(2);
        x.look(0, 0, 1, 0, 1);
        x.look(2, 0, 0, 3, 1);
        C.due("both come", 1, x.answer(0, -1));
        x.deny(5, 0, 3, true);
        C.due("the answer of 3 alone is lost", 1, x.answer(0, -1));
        C.due("the answer of 3 is lost", 3, x.answer(1, -1));
        x.deny(5, 0, 3, false);
        x.deny(5, 0, 0, true);
        C.due("the answer of 0 is lost", 0, x.answer(0, -1));
        C.due("the answer of 0 alone is lost", 11, x.answer(1, -1));
        x.deny(5, 0, 0, false);
        x.deny(5, 1, 0, true);
        C.due("the letter of 0 is lost", 0, x.answer(0, -1));
    }

    private static void namesUpTo5() {
        C.sentence("NAMES 0 .. 5, each of a HOST, or none");
        NetSchool x = Check.smallNet();
        x.namer(2);
        for (int name = -2; name <= 7; name++) {
            boolean is = name >= 0 && name <= 5;
            C.due("fault " + name, is, x.fault(2, name, 0, 0) != -1);
            C.due("look " + name, is, x.look(2, 0, name, 0, 1) != -1);
            if (is) {
                C.due(name + " is of none", 2, x.answer(name, -1));
            }
            C.due("name " + name, is, x.name(name, 1));
            if (is) {
                C.due(name + " is of a host", 11, x.answer(name, -1));
            }
            C.due("of none " + name, is, x.name(name, -1));
            if (is) {
                C.due(name + " is of none again", 2, x.answer(name, -1));
            }
        }
    }

    private static void namerOrNone() {
        C.sentence("NAMER: a HOST, or none");
        NetSchool x = Check.smallNet();
        x.name(0, 1);
        x.look(2, 0, 0, 0, 1);
        C.due("none at first", 1, x.answer(0, -1));
        for (int node = 0; node < 6; node++) {
            C.due("namer " + node, node < 3, x.namer(node));
            C.due("there is one", 11, x.answer(0, -1));
        }
        C.due("none", true, x.namer(-1));
        C.due("there is none", 1, x.answer(0, -1));
    }

    private static void faultsAtMost12() {
        C.sentence("FAULTS 0 .. (at most 12)");
        NetSchool x = Check.smallNet();
        for (int i = 0; i < 12; i++) {
            C.due("fault " + i, i, x.fault(0, i == 11 ? 3 : 2, 0, 0));
        }
        C.due("a thirteenth", -1, x.fault(0, 3, 0, 0));
        C.due("count(2)", 12, x.count(2));
        C.due("a cause of the last one", 0, x.cause(11, -1));
        C.due("a cause of one behind it", -1, x.cause(12, -1));
        x.look(4, 3, 0, 0, 1);
        C.due("the last one holds", 0, x.answer(0, 0));
        x.begin(0);
        C.due("mended", 0, x.mend(11));
        C.due("one behind it", -2, x.mend(12));
        C.due("it holds no more", 1, x.use(0));
    }

    private static void faultsOfEachKind() {
        C.sentence("0 CABLE: LINE a is CUT .. 5 SERVICE: SERVICE b of HOST a is not ON");
        NetSchool x = Check.smallNet();
        x.namer(2);
        x.name(1, 1);
        int[][] faults = {{0, 3, 0, 0}, {1, 1, 0, 0}, {2, 0, 1, 0}, {3, 5, 1, 3}, {4, 4, 1, 3}, {5, 1, 3, 0}};
        for (int i = 0; i < 6; i++) {
            int[] f = faults[i];
            C.due("fault of kind " + i, i, x.fault(f[0], f[1], f[2], f[3]));
            x.cause(i, -1);
        }
        x.look(4, 3, 0, 0, 1);
        x.look(1, 0, 1, 0, 1);
        x.look(2, 0, 0, 0, 1);
        x.look(2, 0, 1, 3, 1);
        x.look(3, 4, 1, 0, 1);
        int[][] want = {
            {1, 0, 1, 1, 1, 1, 1},
            {104, 3, 4, 104, 104, 30, 104},
            {2, 2, 2, 11, 2, 2, 2},
            {11, 3, 3, 11, 3, 3, 4},
            {5, 5, 5, 5, 5, 3, 5},
        };
        for (int look = 0; look < 5; look++) {
            for (int cause = -1; cause < 6; cause++) {
                C.due("answer(" + look + ", " + cause + ")", want[look][cause + 1], x.answer(look, cause));
            }
        }
        C.due("kind 6", -1, x.fault(6, 0, 0, 0));
        C.due("kind -1", -1, x.fault(-1, 0, 0, 0));
    }

    private static void anyNodeButA() {
        C.sentence("4 ROUTE: NEXT of ROUTER or WALL a for HOST b is c (any NODE but a)");
        NetSchool x = Check.smallNet();
        int made = 0;
        for (int gate = 4; gate <= 5; gate++) {
            for (int c = -1; c <= 6; c++) {
                boolean is = c >= 0 && c < 6 && c != gate;
                C.due("route of " + gate + " to " + c, is ? made : -1, x.fault(4, gate, 1, c));
                made += is ? 1 : 0;
            }
        }
        x.cause(0, -1);
        x.look(3, 4, 1, 0, 1);
        x.look(3, 4, 0, 0, 1);
        C.due("for 1", 0, x.answer(0, 0));
        C.due("for another one", 3, x.answer(1, 0));
    }

    private static void causesAtMost12() {
        C.sentence("CAUSES 0 .. (at most 12): one or two FAULTS, in order");
        NetSchool x = Check.smallNet();
        x.fault(0, 2, 0, 0);
        x.fault(0, 3, 0, 0);
        for (int i = 0; i < 12; i++) {
            C.due("cause " + i, i, i == 11 ? x.cause(0, 1) : x.cause(0, -1));
        }
        C.due("a thirteenth", -1, x.cause(0, -1));
        C.due("count(3)", 12, x.count(3));
        x.look(4, 3, 0, 0, 9);
        x.look(4, 2, 0, 0, 9);
        C.due("the last one's second fault", 0, x.answer(0, 11));
        C.due("the last one's first fault", 0, x.answer(1, 11));
        C.due("one fault alone", 1, x.answer(0, 10));
        C.due("the last one is parted", 9, x.worst(4095));
        C.due("a lesson with the last one", true, x.begin(11));
        C.due("with one behind it", false, x.begin(12));
        C.due("both", 1, x.mend(1));
        C.due("both", 0, x.mend(0));
    }

    private static void bothHold() {
        C.sentence("one or two FAULTS: both hold, where they tell of two things");
        NetSchool x = calls();
        int[][] faults = {
            {0, 0, 0, 0}, {0, 3, 0, 0}, {1, 0, 0, 0}, {1, 1, 0, 0}, {2, 0, 0, 0}, {2, 1, 1, 0},
            {3, 5, 1, 0}, {3, 5, 0, 0}, {4, 4, 1, 0}, {4, 5, 0, 1}, {5, 0, 3, 0}, {5, 1, 3, 0},
        };
        for (int[] f : faults) {
            x.fault(f[0], f[1], f[2], f[3]);
        }
        for (int i = 0; i < 6; i++) {
            x.cause(2 * i, 2 * i + 1);
            x.cause(2 * i + 1, 2 * i);
        }
        x.look(4, 0, 0, 0, 1);
        x.look(4, 3, 0, 0, 1);
        x.look(1, 0, 1, 0, 1);
        x.look(1, 1, 0, 0, 1);
        x.look(2, 2, 1, 0, 1);
        x.name(2, 0);
        x.look(2, 2, 2, 3, 1);
        int[][] looksOf = {{3, 0, 4, 0}, {5, 4, 6, 4}, {0, 10, 7, 11}, {5, 3, 6, 1}, {5, 2, 6, 30}, {0, 4, 8, 4}};
        for (int cause = 0; cause < 12; cause++) {
            int[] l = looksOf[cause / 2];
            C.due("look " + l[0] + " by " + cause, l[1], x.answer(l[0], cause));
            C.due("look " + l[2] + " by " + cause, l[3], x.answer(l[2], cause));
        }
    }

    private static void theSecondOneHolds() {
        C.sentence("where both tell of one thing the second one holds");
        NetSchool x = Check.smallNet();
        x.namer(2);
        x.fault(2, 0, 0, 0);
        x.fault(2, 0, 1, 0);
        x.fault(4, 4, 1, 3);
        x.fault(4, 4, 1, 2);
        x.look(2, 0, 0, 0, 1);
        x.look(3, 4, 1, 0, 1);
        int[][] pairs = {{0, 1, 11, 5}, {1, 0, 10, 5}, {2, 3, 2, 2}, {3, 2, 2, 3}, {0, -1, 10, 5}, {3, -1, 2, 2}, {1, 2, 3, 3}};
        for (int i = 0; i < pairs.length; i++) {
            C.due("cause", i, x.cause(pairs[i][0], pairs[i][1]));
            C.due("name by " + i, pairs[i][2], x.answer(0, i));
            C.due("route by " + i, pairs[i][3], x.answer(1, i));
        }
        x.begin(0);
        x.mend(0);
        C.due("the first one is mended", 11, x.use(0));
        x.begin(0);
        x.mend(1);
        C.due("the second one is mended", 10, x.use(0));
        x.mend(0);
        C.due("both are", 2, x.use(0));
    }

    private static void withoutCauseWell() {
        C.sentence("Without a CAUSE all is WELL");
        NetSchool x = Check.school();
        C.due("ping by a cause", 0, x.answer(0, 2));
        C.due("ping", 1, x.answer(0, -1));
        C.due("a letter by a cause", 3, x.goes(2, 0, 0, 1));
        C.due("a letter", 5, x.goes(-1, 0, 0, 1));
        x.begin(2);
        C.due("ping in a lesson", 1, x.answer(0, -1));
        C.due("a letter in a lesson", 5, x.goes(-1, 0, 0, 1));
    }

    private static void looksAtMost12() {
        C.sentence("LOOKS 0 .. (at most 12)");
        NetSchool x = Check.smallNet();
        x.fault(0, 2, 0, 0);
        x.fault(0, 3, 0, 0);
        x.cause(0, -1);
        x.cause(1, -1);
        for (int i = 0; i < 12; i++) {
            C.due("look " + i, i, x.look(4, i == 11 ? 3 : 0, 0, 0, 7));
        }
        C.due("a thirteenth", -1, x.look(4, 3, 0, 0, 7));
        C.due("count(4)", 12, x.count(4));
        C.due("the last one parts", 1 << 11, x.unlike(0, 1));
        C.due("groups(11)", 2, x.groups(11));
        C.due("groups(12)", -1, x.groups(12));
        C.due("first", 11, x.first(3));
        C.due("tells", 11, x.tells(3));
        x.begin(0);
        C.due("claim", 11, x.claim(1));
        C.due("use(12)", -2, x.use(12));
        C.due("use(11)", 1, x.use(11));
        C.due("left", 1, x.left());
    }

    private static void prices() {
        C.sentence("each with a PRICE 1 .. 100 (minutes)");
        NetSchool x = Check.school();
        C.due("0", -1, x.look(4, 0, 0, 0, 0));
        C.due("-1", -1, x.look(4, 0, 0, 0, -1));
        C.due("1", 3, x.look(4, 0, 0, 0, 1));
        C.due("100", 4, x.look(4, 0, 0, 0, 100));
        C.due("101", -1, x.look(4, 0, 0, 0, 101));
        for (int far : new int[] {Integer.MIN_VALUE, -100, 128, 257, 65537, Integer.MAX_VALUE}) {
            C.due("far", -1, x.look(4, 0, 0, 0, far));
        }
        x.begin(0);
        x.use(3);
        C.due("one minute", 1, x.mark(0));
        x.use(4);
        C.due("a hundred more", 101, x.mark(0));
    }

    private static void pingAnswers() {
        C.sentence("0 PING from HOST a to another HOST b: 1, if a LETTER of SERVICE 0 and its ANSWER COME, else 0");
        NetSchool x = Check.smallNet();
        x.look(0, 0, 1, 0, 1);
        C.due("itself", -1, x.look(0, 1, 1, 0, 1));
        C.due("both come", 1, x.answer(0, -1));
        x.on(1, 0, false);
        C.due("whether it is on does not matter", 1, x.answer(0, -1));
        x.deny(5, 1, 1, true);
        C.due("nor does another service", 1, x.answer(0, -1));
        x.deny(5, 0, 0, true);
        C.due("no answer", 0, x.answer(0, -1));
        x.deny(5, 0, 0, false);
        x.deny(5, 1, 0, true);
        C.due("no letter", 0, x.answer(0, -1));
        x.deny(5, 0, 0, true);
        C.due("neither", 0, x.answer(0, -1));
    }

    private static void traceAnswers() {
        C.sentence("1 TRACE: over how many LINES a LETTER of SERVICE 0 goes; and 100 more, if it COMES");
        NetSchool x = Check.net(0, 0, 0, 2);
        x.look(1, 0, 1, 0, 1);
        C.due("itself", -1, x.look(1, 0, 0, 0, 1));
        C.due("none", 0, x.answer(0, -1));
        x.line(0, 1);
        C.due("one, and it comes", 101, x.answer(0, -1));
        x.fault(1, 1, 0, 0);
        x.cause(0, -1);
        C.due("one, but it is astray", 1, x.answer(0, 0));
        x = twoRouters();
        x.route(4, 0, 1);
        C.due("the answer does not matter", 103, x.answer(0, -1));
        C.due("thirty at most", 30, x.answer(1, -1));
        x = Check.smallNet();
        x.look(1, 0, 1, 0, 1);
        x.deny(5, 1, 1, true);
        C.due("another service does not matter", 104, x.answer(0, -1));
        x.deny(5, 1, 0, true);
        C.due("up to the WALL", 3, x.answer(0, -1));
    }

    /** The small net, namer 2, name 0 of host 1, name 1 of host 2; looks: calls of service 3 from 0, 1, 2 by name 0. */
    private static NetSchool calls() {
        NetSchool x = Check.smallNet();
        x.namer(2);
        x.name(0, 1);
        x.name(1, 2);
        for (int host = 0; host < 3; host++) {
            x.look(2, host, 0, 3, 1);
        }
        return x;
    }

    private static void callAnswers1() {
        C.sentence("2 CALL: 1, if there is no NAMER");
        NetSchool x = calls();
        C.due("there is one", 11, x.answer(0, -1));
        x.namer(-1);
        C.due("from a host", 1, x.answer(0, -1));
        C.due("from what was the namer", 1, x.answer(2, -1));
        C.sentence("it has SERVICE 1 not ON");
        x.namer(2);
        x.on(2, 1, false);
        C.due("from a host", 1, x.answer(0, -1));
        C.due("from the NAMER itself", 1, x.answer(2, -1));
        x.on(2, 1, true);
        x.on(2, 0, false);
        x.on(1, 1, false);
        C.due("another service, another host", 11, x.answer(0, -1));
        C.sentence("or a LETTER of SERVICE 1 from a to it and its ANSWER do not both COME");
        x = calls();
        x.deny(5, 2, 1, true);
        C.due("the letter of 1 is lost", 1, x.answer(1, -1));
        C.due("it is not from 0", 11, x.answer(0, -1));
        x.deny(5, 2, 1, false);
        x.deny(5, 1, 1, true);
        C.due("the answer to 1 is lost", 1, x.answer(1, -1));
        x.deny(5, 1, 1, false);
        x.deny(5, 1, 0, true);
        x.deny(5, 2, 0, true);
        C.due("another service", 11, x.answer(1, -1));
        C.sentence("(if a is the NAMER itself, they do)");
        x.fault(1, 2, 0, 0);
        x.cause(0, -1);
        x.look(2, 2, 1, 3, 1);
        C.due("the NAMER is astray, and is asked for by itself", 12, x.answer(3, 0));
        C.due("by another host", 1, x.answer(0, 0));
        C.due("no way back to the NAMER", 3, x.answer(2, 0));
        x = Check.net(0);
        x.namer(0);
        x.name(0, 0);
        x.look(2, 0, 0, 0, 1);
        C.due("one alone", 10, x.answer(0, -1));
    }

    private static void callAnswers2To10() {
        C.sentence("else 2, if the NAME is of none");
        NetSchool x = calls();
        x.name(0, -1);
        C.due("of none", 2, x.answer(0, -1));
        x.on(2, 1, false);
        C.due("1 comes first", 1, x.answer(0, -1));
        C.sentence("3, if a LETTER of c to h and its ANSWER do not both COME");
        x = calls();
        x.deny(5, 1, 3, true);
        C.due("the letter is lost", 3, x.answer(0, -1));
        x.on(1, 3, false);
        C.due("3 comes ahead of 4", 3, x.answer(0, -1));
        x.deny(5, 1, 3, false);
        x.deny(5, 0, 3, true);
        C.due("the answer is lost", 3, x.answer(0, -1));
        C.sentence("(if a is h, they do)");
        x = calls();
        x.fault(1, 1, 0, 0);
        x.cause(0, -1);
        x.namer(1);
        C.due("h is astray, and calls itself", 11, x.answer(1, 0));
        C.due("h is called by another one", 1, x.answer(0, 0));
        C.sentence("4, if c is not ON at h");
        x = calls();
        x.on(1, 3, false);
        C.due("from another host", 4, x.answer(0, -1));
        C.due("from itself", 4, x.answer(1, -1));
        x.on(1, 3, true);
        x.on(1, 2, false);
        x.on(0, 3, false);
        C.due("another service, another host", 11, x.answer(0, -1));
        C.sentence("else 10 and h");
        for (int h = 0; h < 3; h++) {
            x = calls();
            x.name(0, h);
            for (int a = 0; a < 3; a++) {
                C.due("from " + a + " to " + h, 10 + h, x.answer(a, -1));
            }
        }
        x = Check.net(1, 1, 1, 1, 1, 1, 1, 1, 1, 1, 0, 0);
        x.line(10, 11);
        x.namer(10);
        x.name(5, 11);
        x.look(2, 10, 5, 3, 1);
        C.due("the last node", 21, x.answer(0, -1));
    }

    private static void tableAnswers() {
        C.sentence("3 TABLE of ROUTER or WALL a for HOST b: NEXT, 99 if NONE");
        NetSchool x = Check.net(0, 2, 3, 1);
        x.look(3, 1, 0, 0, 1);
        x.look(3, 2, 0, 0, 1);
        C.due("of a SWITCH", -1, x.look(3, 3, 0, 0, 1));
        C.due("of a HOST", -1, x.look(3, 0, 0, 0, 1));
        C.due("for a SWITCH", -1, x.look(3, 1, 3, 0, 1));
        C.due("no way of the ROUTER", 99, x.answer(0, -1));
        C.due("no way of the WALL", 99, x.answer(1, -1));
        x.line(1, 2);
        x.line(2, 0);
        C.due("of the ROUTER", 2, x.answer(0, -1));
        C.due("of the WALL, node 0", 0, x.answer(1, -1));
        x.fault(0, 0, 0, 0);
        x.cause(0, -1);
        C.due("a cut line does not matter", 2, x.answer(0, 0));
    }

    private static void cableAnswers() {
        C.sentence("4 CABLE of LINE a: 1, or 0 if it is CUT");
        NetSchool x = Check.school();
        int[][] want = {{1, 0, 1, 0, 1}, {1, 1, 0, 0, 1}};
        for (int cause = -1; cause < 4; cause++) {
            C.due("line 2 by " + cause, want[0][cause + 1], x.answer(1, cause));
            C.due("line 3 by " + cause, want[1][cause + 1], x.answer(2, cause));
        }
    }

    private static void parts() {
        C.sentence("A LOOK PARTS CAUSES, if it has unlike ANSWERS by two of them");
        NetSchool x = Check.school();
        C.due("the ping", 1, x.unlike(0, 3) & 1);
        C.due("not the ping", 0, x.unlike(0, 1) & 1);
        C.due("one alone is never parted", -1, x.tells(4));
        C.due("nor is it from itself", 0, x.unlike(2, 2));
        C.due("two of three", 1, x.tells(7));
    }

    private static void worstIsNothing() {
        C.sentence("WORST of a set of CAUSES: 0, if no LOOK PARTS it");
        NetSchool x = Check.cables(3, 4);
        C.due("one cause", 0, x.worst(1));
        C.due("two causes", 0, x.worst(6));
        C.due("parted", 4, x.worst(3));
        C.due("no looks", 0, Check.cables(12).worst(4095));
    }

    private static void worstIsTheLeast() {
        C.sentence("the least, over all LOOKS that PART it, of PRICE and the greatest WORST of those of it that have one ANSWER");
        NetSchool x = Check.cables(3, 5, 9, 2);
        C.due("two", 5, x.worst(3));
        C.due("two, by the cheaper one", 2, x.worst(5));
        C.due("three", 7, x.worst(7));
        C.due("three, first", 0, x.first(7));
        x = Check.cables(2, 100, 99);
        x.look(0, 0, 1, 0, 1);
        C.due("a refused look parts nothing", 99, x.worst(3));
        x.look(4, 5, 0, 0, 1);
        C.due("a look that does not part costs nothing", 99, x.worst(3));
        x = Check.cables(3, 1, 100);
        C.due("the greatest of the parts", 101, x.worst(7));
        x.look(4, 2, 0, 0, 50);
        C.due("the least of the ways", 51, x.worst(7));
    }

    private static void leftAheadOfAnyMend() {
        C.sentence("LEFT: the CAUSES that have the ANSWERS that were had, of all LOOKS that were used ahead of any mend");
        NetSchool x = Check.school();
        x.begin(2);
        C.due("no look", 15, x.left());
        x.use(0);
        x.use(1);
        C.due("two looks", 5, x.left());
        x.mend(2);
        x.use(2);
        C.due("behind a mend", 5, x.left());
        x.begin(2);
        x.mend(-1);
        x.mend(3);
        x.use(2);
        C.due("behind refused mends", 6, x.left());
        x.begin(2);
        x.mend(0);
        x.use(0);
        x.use(1);
        x.use(2);
        C.due("no look ahead of the mend", 15, x.left());
    }

    private static void endsTheLesson() {
        C.sentence("Whatever is built or told, unless it is refused, ends it");
        String[] calls = {"node", "line", "route", "deny", "on", "name", "namer", "fault", "cause", "look", "clear"};
        for (int call = 0; call < calls.length; call++) {
            for (int refused = 0; refused < 2; refused++) {
                NetSchool x = Check.school();
                x.begin(0);
                boolean done = tell(x, calls[call], refused == 1);
                C.due(calls[call] + " is done", refused == 0 || calls[call].equals("clear"), done);
                C.due("lesson behind " + calls[call], done ? 0 : 1, x.count(6));
                C.due("left() behind " + calls[call], done ? -2 : 15, x.left());
            }
        }
    }

    /** What is told is so already, where that can be: telling alone ends the lesson. */
    private static boolean tell(NetSchool x, String call, boolean refused) {
        switch (call) {
            case "node": return x.node(refused ? 4 : 0) != -1;
            case "line": return x.line(0, refused ? 3 : 1) != -1;
            case "route": return x.route(4, 1, refused ? 4 : -1);
            case "deny": return x.deny(5, 1, refused ? 4 : 3, false);
            case "on": return x.on(1, refused ? 4 : 3, true);
            case "name": return x.name(refused ? 6 : 5, -1);
            case "namer": return x.namer(refused ? -2 : -1);
            case "fault": return x.fault(0, refused ? 5 : 4, 0, 0) != -1;
            case "cause": return x.cause(0, refused ? 0 : -1) != -1;
            case "look": return x.look(0, 0, 1, 0, refused ? 101 : 100) != -1;
            default: return x.clear() == 6;
        }
    }

    private static void theRowIsToldLast() {
        C.sentence("ROW: numbers told last by a call that says so");
        NetSchool x = Check.school();
        C.dueRow("none as yet", x);
        x.goes(-1, 0, 0, 1);
        C.dueRow("goes", x, 0, 3, 4, 5, 1);
        x.goes(-1, 0, 2, 0);
        C.dueRow("a shorter one", x, 2, 3, 0);
        x.fair();
        C.dueRow("fair() that answers 0", x, 2, 3, 0);
        x.cause(1, 0);
        C.due("fair", 1, x.fair());
        C.dueRow("fair() that answers 1", x, 2, 4);
        x.goes(0, 0, 0, 0);
        C.dueRow("goes() refused", x, 2, 4);
        x.begin(0);
        x.use(0);
        x.claim(1);
        x.mend(0);
        x.well();
        C.dueRow("a lesson", x, 2, 4);
        x.node(0);
        C.dueRow("what is built", x, 2, 4);
        x.clear();
        C.dueRow("clear", x);
    }

    private static void the512thCall() {
        C.sentence("An object is used for at most 512 calls after it has been made");
        NetSchool x = Check.school();
        int calls = 21;
        x.begin(2);
        calls++;
        int uses = 0;
        while (calls + 4 < 512) {
            x.use(0);
            uses++;
            x.goes(uses % 2 - 1, 0, 0, 1);
            x.worst(15);
            x.claim(2);
            calls += 4;
        }
        while (calls < 511) {
            x.left();
            calls++;
        }
        C.due("minutes in the 512th call", 5 * uses, x.mark(0));
    }
}
