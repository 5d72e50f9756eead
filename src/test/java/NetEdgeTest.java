/** Promises 1 to 11: each sentence that names a boundary case has a test of its own. */
public final class NetEdgeTest {
    private static final Check C = new Check("NetEdgeTest");

    public static void main(String[] args) {
        newObject();
        newObjectsShareNothing();
        nodeKinds();
        node12();
        lineOfNoSuchTwo();
        lineThatIsThere();
        line20();
        routeTold();
        routeToldNoMore();
        routeOfNoneSuch();
        routeToItself();
        denyOrNot();
        denyOfNoneSuch();
        onOrNot();
        onOfNoneSuch();
        nameOfHostOrNone();
        nameOfNoneSuch();
        namerIsHostOrNone();
        namerOfNoneSuch();
        clearIsAsNew();
        clearForgetsAll();
        clearMakesRoom();
        clearTellsNodes();
        countOfEach();
        countOfAnotherWhat();
        nextForOneThatIsNoHost();
        nextIsWell();
        nextOfNoneSuch();
        nextOfOneAlone();
        nextOfAnotherWhat();
        C.end();
    }

    /** Twelve nodes (hosts 0, 1, 2, switches, router 10, wall 11) and twenty lines. */
    private static NetSchool fullNet() {
        NetSchool x = Check.net(0, 0, 0, 1, 1, 1, 1, 1, 1, 1, 2, 3);
        fillLines(x);
        return x;
    }

    private static void fillLines(NetSchool x) {
        x.line(0, 3);
        x.line(1, 4);
        x.line(2, 11);
        for (int a = 3; a < 12; a++) {
            for (int b = a + 1; b < 12; b++) {
                x.line(a, b);
            }
        }
    }

    private static void newObject() {
        C.sentence("1: No NODES, FAULTS, CAUSES, LOOKS; no LESSON");
        dueNew(new NetSchool());
    }

    private static void dueNew(NetSchool x) {
        for (int what = 0; what <= 6; what++) {
            C.due("count(" + what + ")", 0, x.count(what));
        }
        C.due("no node: on", false, x.on(0, 0, true));
        C.due("no node: namer", false, x.namer(0));
        C.due("no node: line", -1, x.line(0, 1));
        C.due("no node: next", -1, x.next(0, 1, 1));
        C.due("no node: goes", -1, x.goes(-1, 0, 0, 1));
        C.due("no node: route", false, x.route(0, 1, -1));
        C.due("no node: deny", false, x.deny(0, 1, 0, false));
        C.due("no line: fault", -1, x.fault(0, 0, 0, 0));
        C.due("no line: look", -1, x.look(4, 0, 0, 0, 1));
        C.due("no fault: cause", -1, x.cause(0, -1));
        C.due("no cause: unlike", -1, x.unlike(0, 0));
        C.due("no cause: worst", -1, x.worst(1));
        C.due("no cause: tells", -1, x.tells(1));
        C.due("no cause: first", -1, x.first(1));
        C.due("no cause: fair", 0, x.fair());
        C.due("no cause: begin", false, x.begin(0));
        C.due("no look: groups", -1, x.groups(0));
        C.dueNoAnswer(x, 0, -1);
        C.dueNoAnswer(x, -1, -1);
        C.due("no lesson: use", -2, x.use(0));
        C.due("no lesson: left", -2, x.left());
        C.due("no lesson: mend", -2, x.mend(0));
        C.due("no lesson: well", -2, x.well());
        C.due("no lesson: claim", -2, x.claim(0));
        C.due("no lesson: mark", -2, x.mark(0));
        C.dueNoRow("no row", x, 0);
        for (int name = 0; name < 6; name++) {
            C.due("a name of none", true, x.name(name, -1));
            C.due("a name of no node", false, x.name(name, 0));
        }
    }

    private static void newObjectsShareNothing() {
        C.sentence("1: A new object");
        NetSchool old = Check.school();
        old.goes(-1, 0, 0, 1);
        old.begin(0);
        dueNew(new NetSchool());
        C.due("the older one goes on", 1, old.count(6));
        C.due("its row too", 5, old.count(5));
        C.due("its nodes too", 6, old.count(0));
    }

    private static void nodeKinds() {
        C.sentence("2: NONE: no such KIND");
        NetSchool x = new NetSchool();
        C.due("-1", -1, x.node(-1));
        C.due("4", -1, x.node(4));
        for (int far : Check.FAR) {
            C.due("" + far, -1, x.node(far));
        }
        C.due("none is there", 0, x.count(0));
        C.due("the least kind", 0, x.node(0));
        C.due("-1 behind it", -1, x.node(-1));
        C.due("the greatest kind", 1, x.node(3));
        C.due("two are there", 2, x.count(0));
    }

    private static void node12() {
        C.sentence("2: NONE: 12");
        NetSchool x = new NetSchool();
        for (int i = 0; i < 11; i++) {
            x.node(i % 4);
        }
        C.due("the twelfth", 11, x.node(3));
        for (int kind = -1; kind <= 4; kind++) {
            C.due("a thirteenth of kind " + kind, -1, x.node(kind));
        }
        C.due("count(0)", 12, x.count(0));
        C.due("the twelfth is a WALL", true, x.deny(11, 0, 0, true));
    }

    private static void lineOfNoSuchTwo() {
        C.sentence("3: NONE: no such two NODES");
        NetSchool x = Check.net(0, 1, 1);
        C.due("line(-1, 0)", -1, x.line(-1, 0));
        C.due("line(0, -1)", -1, x.line(0, -1));
        C.due("line(3, 0)", -1, x.line(3, 0));
        C.due("line(0, 3)", -1, x.line(0, 3));
        C.due("line(3, 3)", -1, x.line(3, 3));
        C.due("line(2, 2)", -1, x.line(2, 2));
        C.due("line(-1, -1)", -1, x.line(-1, -1));
        for (int far : Check.FAR) {
            C.due("line(far, 0)", -1, x.line(far, 0));
            C.due("line(0, far)", -1, x.line(0, far));
            C.due("line(far, far)", -1, x.line(far, far));
        }
        C.due("none is there", 0, x.count(1));
        C.due("line(0, 2)", 0, x.line(0, 2));
        C.due("the next node is none as yet", -1, x.line(0, 3));
        x.node(0);
        C.due("it is one now", 1, x.line(0, 3));
    }

    private static void lineThatIsThere() {
        C.sentence("3: NONE: there is one");
        NetSchool x = fullNet();
        C.due("count(1)", 20, x.count(1));
        x = Check.net(1, 0, 2, 3);
        C.due("line(3, 0)", 0, x.line(3, 0));
        C.due("line(3, 0) again", -1, x.line(3, 0));
        C.due("line(0, 3)", -1, x.line(0, 3));
        C.due("line(1, 2)", 1, x.line(1, 2));
        C.due("line(2, 1)", -1, x.line(2, 1));
        C.due("line(3, 0) once more", -1, x.line(3, 0));
        C.due("count(1)", 2, x.count(1));
    }

    private static void line20() {
        C.sentence("3: NONE: 20");
        NetSchool x = Check.net(1, 1, 1, 1, 1, 1, 1);
        int made = 0;
        for (int a = 6; a > 0; a--) {
            for (int b = 0; b < a && made < 20; b++) {
                C.due("line " + made, made, x.line(a, b));
                made++;
            }
        }
        C.due("a 21st", -1, x.line(1, 0));
        C.due("a 21st the other way", -1, x.line(0, 1));
        C.due("count(1)", 20, x.count(1));
        C.due("it is not there", 2, x.next(0, 1, 1));
        x.node(0);
        C.due("not to a new node either", -1, x.line(0, 7));
        C.due("no way to it", -1, x.next(0, 7, 1));
    }

    private static void routeTold() {
        C.sentence("4: NEXT of a ROUTER or WALL for a HOST is told: true");
        NetSchool x = fullNet();
        for (int next = 0; next < 12; next++) {
            if (next != 10) {
                C.due("of the ROUTER", true, x.route(10, 0, next));
                C.due("is told", next, x.next(10, 0, 0));
            }
            if (next != 11) {
                C.due("of the WALL", true, x.route(11, 2, next));
                C.due("is told", next, x.next(11, 2, 0));
            }
        }
        C.due("the same again", true, x.route(10, 0, 11));
        C.due("is told still", 11, x.next(10, 0, 0));
    }

    private static void routeToldNoMore() {
        C.sentence("4: (NONE: no more)");
        NetSchool x = Check.smallNet();
        C.due("nothing was told", true, x.route(4, 1, -1));
        C.due("NEAREST", 5, x.next(4, 1, 0));
        x.route(4, 1, 3);
        x.route(4, 0, 5);
        x.route(5, 1, 4);
        C.due("no more", true, x.route(4, 1, -1));
        C.due("NEAREST again", 5, x.next(4, 1, 0));
        C.due("another HOST", 5, x.next(4, 0, 0));
        C.due("another WALL", 4, x.next(5, 1, 0));
    }

    private static void routeOfNoneSuch() {
        C.sentence("4: false for none such");
        NetSchool x = Check.smallNet();
        x.route(4, 1, 0);
        C.due("of a HOST", false, x.route(0, 1, 3));
        C.due("of a SWITCH", false, x.route(3, 1, 4));
        C.due("of -1", false, x.route(-1, 1, 3));
        C.due("of 6", false, x.route(6, 1, 3));
        C.due("for a SWITCH", false, x.route(4, 3, 5));
        C.due("for a WALL", false, x.route(4, 5, 3));
        C.due("for -1", false, x.route(4, -1, 3));
        C.due("for 6", false, x.route(4, 6, 3));
        C.due("to -2", false, x.route(4, 1, -2));
        C.due("to 6", false, x.route(4, 1, 6));
        C.due("no more for a SWITCH", false, x.route(4, 3, -1));
        C.due("no more of a SWITCH", false, x.route(3, 1, -1));
        for (int far : Check.FAR) {
            C.due("of far", false, x.route(far, 1, 3));
            C.due("for far", false, x.route(4, far, 3));
            C.due("to far", false, x.route(4, 1, far));
        }
        C.due("as it was", 0, x.next(4, 1, 0));
        C.due("for another HOST as it was", 3, x.next(4, 0, 0));
        C.due("of the SWITCH as it was", 4, x.next(3, 1, 0));
    }

    private static void routeToItself() {
        C.sentence("4: false for itself as NEXT");
        NetSchool x = Check.smallNet();
        C.due("the ROUTER", false, x.route(4, 1, 4));
        C.due("the WALL", false, x.route(5, 0, 5));
        C.due("as it was", 5, x.next(4, 1, 0));
        C.due("as it was", 4, x.next(5, 0, 0));
        C.due("the HOST itself is fine", true, x.route(4, 1, 1));
    }

    private static void denyOrNot() {
        C.sentence("5: A WALL DENIES a SERVICE to a HOST, or not: true");
        NetSchool x = Check.smallNet();
        for (int service = 0; service < 4; service++) {
            C.due("not, as at first", true, x.deny(5, 1, service, false));
            C.due("goes", 5, x.goes(-1, service, 0, 1));
            C.due("denied", true, x.deny(5, 1, service, true));
            C.due("is lost", 4, x.goes(-1, service, 0, 1));
            C.due("denied again", true, x.deny(5, 1, service, true));
            C.due("is lost still", 4, x.goes(-1, service, 0, 1));
            C.due("another service", service == 3 ? 4 : 5, x.goes(-1, 3, 0, 1));
        }
        C.due("not any more", true, x.deny(5, 1, 0, false));
        C.due("goes", 5, x.goes(-1, 0, 0, 1));
        C.due("the next one is denied still", 4, x.goes(-1, 1, 0, 1));
    }

    private static void denyOfNoneSuch() {
        C.sentence("5: false for none such");
        NetSchool x = Check.smallNet();
        x.deny(5, 0, 3, true);
        for (boolean is : new boolean[] {true, false}) {
            C.due("by a HOST", false, x.deny(0, 1, 0, is));
            C.due("by a SWITCH", false, x.deny(3, 1, 0, is));
            C.due("by a ROUTER", false, x.deny(4, 1, 0, is));
            C.due("by -1", false, x.deny(-1, 1, 0, is));
            C.due("by 6", false, x.deny(6, 1, 0, is));
            C.due("to a SWITCH", false, x.deny(5, 3, 0, is));
            C.due("to itself", false, x.deny(5, 5, 0, is));
            C.due("to -1", false, x.deny(5, -1, 0, is));
            C.due("to 6", false, x.deny(5, 6, 0, is));
            C.due("of -1", false, x.deny(5, 1, -1, is));
            C.due("of 4", false, x.deny(5, 1, 4, is));
            for (int far : Check.FAR) {
                C.due("by far", false, x.deny(far, 1, 0, is));
                C.due("to far", false, x.deny(5, far, 0, is));
                C.due("of far", false, x.deny(5, 1, far, is));
                C.due("of far, what is denied", false, x.deny(5, 0, far, is));
            }
        }
        for (int service = 0; service < 4; service++) {
            C.due("as it was", 5, x.goes(-1, service, 0, 1));
            C.due("as it was", service == 3 ? 2 : 5, x.goes(-1, service, 1, 0));
        }
    }

    private static void onOrNot() {
        C.sentence("6: A SERVICE of a HOST is ON, or not: true");
        for (int host = 0; host < 3; host++) {
            NetSchool x = Check.smallNet();
            x.namer(host == 2 ? 1 : 2);
            x.name(0, host);
            for (int service = 0; service < 4; service++) {
                x.look(2, 0, 0, service, 1);
                C.due("on, as at first", true, x.on(host, service, true));
                C.due("it is", 10 + host, x.answer(service, -1));
                C.due("off", true, x.on(host, service, false));
                C.due("it is not", 4, x.answer(service, -1));
                C.due("off again", true, x.on(host, service, false));
                C.due("it is not still", 4, x.answer(service, -1));
            }
            C.due("on again", true, x.on(host, 2, true));
            C.due("it is again", 10 + host, x.answer(2, -1));
            C.due("the next one is not", 4, x.answer(3, -1));
            C.due("the one ahead is not", 4, x.answer(1, -1));
        }
    }

    private static void onOfNoneSuch() {
        C.sentence("6: false for none such");
        NetSchool x = Check.smallNet();
        x.namer(2);
        x.name(0, 1);
        x.on(1, 3, false);
        for (boolean is : new boolean[] {true, false}) {
            for (int node = 3; node <= 6; node++) {
                C.due("of " + node, false, x.on(node, 0, is));
            }
            C.due("of -1", false, x.on(-1, 0, is));
            C.due("-1", false, x.on(1, -1, is));
            C.due("4", false, x.on(1, 4, is));
            for (int far : Check.FAR) {
                C.due("of far", false, x.on(far, 0, is));
                C.due("far", false, x.on(1, far, is));
            }
        }
        for (int service = 0; service < 4; service++) {
            x.look(2, 0, 0, service, 1);
            C.due("as it was", service == 3 ? 4 : 11, x.answer(service, -1));
        }
    }

    private static void nameOfHostOrNone() {
        C.sentence("7: A NAME is of a HOST (NONE: of none): true");
        NetSchool x = Check.smallNet();
        x.namer(2);
        x.look(2, 0, 0, 0, 1);
        x.look(2, 0, 5, 0, 1);
        C.due("of none, as at first", true, x.name(0, -1));
        C.due("it is", 2, x.answer(0, -1));
        for (int host = 0; host < 3; host++) {
            C.due("the first name", true, x.name(0, host));
            C.due("the last name", true, x.name(5, 2 - host));
            C.due("it is", 10 + host, x.answer(0, -1));
            C.due("it is", 12 - host, x.answer(1, -1));
        }
        C.due("of none", true, x.name(0, -1));
        C.due("it is", 2, x.answer(0, -1));
        C.due("the other one is not", 10, x.answer(1, -1));
    }

    private static void nameOfNoneSuch() {
        C.sentence("7: false for none such");
        NetSchool x = Check.smallNet();
        x.namer(2);
        x.name(0, 1);
        x.name(5, 0);
        C.due("-1", false, x.name(-1, 1));
        C.due("6", false, x.name(6, 1));
        C.due("-1 of none", false, x.name(-1, -1));
        C.due("6 of none", false, x.name(6, -1));
        for (int node = 3; node <= 6; node++) {
            C.due("of " + node, false, x.name(0, node));
        }
        C.due("of -2", false, x.name(0, -2));
        for (int far : Check.FAR) {
            C.due("far", false, x.name(far, 1));
            C.due("far of none", false, x.name(far, -1));
            C.due("of far", false, x.name(0, far));
        }
        x.look(2, 0, 0, 0, 1);
        x.look(2, 0, 5, 0, 1);
        C.due("as it was", 11, x.answer(0, -1));
        C.due("as it was", 10, x.answer(1, -1));
    }

    /** Call from host 1 by name 0: whether it comes tells who the namer is, as the wall hides host 2. */
    private static NetSchool hiddenNamer() {
        NetSchool x = Check.smallNet();
        x.name(0, 1);
        x.look(2, 1, 0, 0, 1);
        x.deny(5, 2, 1, true);
        return x;
    }

    private static void namerIsHostOrNone() {
        C.sentence("8: The NAMER is a HOST (NONE: there is none): true");
        NetSchool x = hiddenNamer();
        C.due("none, as at first", true, x.namer(-1));
        C.due("there is none", 1, x.answer(0, -1));
        C.due("0", true, x.namer(0));
        C.due("it is", 11, x.answer(0, -1));
        C.due("2", true, x.namer(2));
        C.due("it is, but hidden", 1, x.answer(0, -1));
        C.due("1", true, x.namer(1));
        C.due("it is", 11, x.answer(0, -1));
        C.due("none", true, x.namer(-1));
        C.due("there is none", 1, x.answer(0, -1));
    }

    private static void namerOfNoneSuch() {
        C.sentence("8: false for none such");
        NetSchool x = hiddenNamer();
        x.namer(0);
        for (int node = 3; node <= 6; node++) {
            C.due("" + node, false, x.namer(node));
        }
        C.due("-2", false, x.namer(-2));
        for (int far : Check.FAR) {
            C.due("far", false, x.namer(far));
        }
        C.due("as it was", 11, x.answer(0, -1));
        x.namer(-1);
        C.due("refused", false, x.namer(3));
        C.due("none, as it was", 1, x.answer(0, -1));
    }

    /** All that can be told, told. */
    private static void tellAll(NetSchool x) {
        x.route(4, 1, 3);
        x.route(5, 0, 1);
        for (int i = 0; i < 3; i++) {
            for (int service = 0; service < 4; service++) {
                x.deny(5, i, service, true);
                x.on(i, service, false);
            }
            x.name(i, i);
            x.name(5 - i, i);
        }
        x.namer(2);
    }

    private static void clearIsAsNew() {
        C.sentence("9: All is as behind the constructor");
        NetSchool x = Check.school();
        tellAll(x);
        x.goes(-1, 0, 0, 1);
        x.begin(0);
        x.use(0);
        x.clear();
        dueNew(x);
        for (int kind : new int[] {0, 0, 0, 1, 2, 3}) {
            x.node(kind);
        }
        for (int a = 0; a < 6; a++) {
            for (int b = 0; b < 6; b++) {
                C.due("no line", -1, x.next(a, b, 0));
            }
        }
        x.line(0, 3);
        x.line(3, 4);
        x.line(4, 5);
        x.line(5, 1);
        x.line(3, 2);
        C.due("no route", 5, x.next(4, 1, 0));
        C.due("no route of the WALL", 4, x.next(5, 0, 0));
        for (int service = 0; service < 4; service++) {
            C.due("nothing denied to 1", 5, x.goes(-1, service, 0, 1));
            C.due("nothing denied to 0", 5, x.goes(-1, service, 1, 0));
            x.look(2, 0, 0, service, 1);
            x.look(2, 0, 5, service, 1);
        }
        C.due("no namer", 1, x.answer(0, -1));
        x.namer(2);
        C.due("no name", 2, x.answer(0, -1));
        C.due("no name", 2, x.answer(1, -1));
        x.name(0, 1);
        x.name(5, 0);
        for (int service = 0; service < 4; service++) {
            C.due("all on at 1", 11, x.answer(2 * service, -1));
            C.due("all on at 0", 10, x.answer(2 * service + 1, -1));
        }
    }

    private static void clearForgetsAll() {
        C.sentence("9: All is as behind the constructor, whatever there was");
        for (NetSchool x : new NetSchool[] {Watch.inLesson(), Watch.full(), new NetSchool()}) {
            x.clear();
            Watch.dueLike(C, "cleared", new NetSchool(), x);
        }
        for (int first = 0; first < 4; first++) {
            for (int later = 0; later < 4; later++) {
                NetSchool x = Check.net(first, first, first);
                x.line(0, 1);
                x.line(1, 2);
                x.clear();
                dueKinds(x, later);
            }
        }
    }

    /** One node of the kind behind another one, then a third and a fourth: what was there ahead of clear() is not seen. */
    private static void dueKinds(NetSchool x, int kind) {
        x.node(0);
        C.due("no second HOST", false, x.on(1, 0, true));
        C.due("no second WALL", false, x.deny(1, 0, 0, true));
        C.due("no second ROUTER", false, x.route(1, 0, -1));
        x.node(kind);
        x.node(0);
        x.line(0, 1);
        x.line(1, 2);
        C.due("a HOST", kind == 0, x.on(1, 0, true));
        C.due("a WALL", kind == 3, x.deny(1, 0, 0, false));
        C.due("a ROUTER or WALL", kind >= 2, x.route(1, 0, -1));
        C.due("passed, if it is no HOST", kind == 0 ? -1 : 1, x.next(0, 2, 1));
    }

    private static void clearMakesRoom() {
        C.sentence("9: All is as behind the constructor, also what was full");
        NetSchool x = fullNet();
        for (int i = 0; i < 12; i++) {
            x.fault(0, i, 0, 0);
            x.cause(i, -1);
            x.look(4, i, 0, 0, 1);
        }
        C.due("full", 12, x.clear());
        for (int i = 0; i < 12; i++) {
            C.due("node", i, x.node(i < 3 ? 0 : i < 10 ? 1 : i - 8));
        }
        fillLines(x);
        C.due("lines", 20, x.count(1));
        for (int i = 0; i < 12; i++) {
            C.due("fault", i, x.fault(0, i, 0, 0));
            C.due("cause", i, x.cause(i, -1));
            C.due("look", i, x.look(4, i, 0, 0, 1));
        }
    }

    private static void clearTellsNodes() {
        C.sentence("9: how many NODES there were");
        NetSchool x = new NetSchool();
        C.due("of none", 0, x.clear());
        x.node(1);
        x.node(7);
        C.due("of one", 1, x.clear());
        C.due("again", 0, x.clear());
        C.due("of twelve", 12, fullNet().clear());
    }

    private static void countOfEach() {
        C.sentence("10: What 0: NODES .. 6: whether there is a LESSON (1, 0)");
        NetSchool x = fullNet();
        for (int i = 0; i < 12; i++) {
            x.fault(0, i, 0, 0);
            x.cause(i, -1);
            x.look(4, i, 0, 0, 1);
        }
        int[] want = {12, 20, 12, 12, 12, 0, 0};
        for (int what = 0; what <= 6; what++) {
            C.due("full count(" + what + ")", want[what], x.count(what));
        }
        x.route(11, 2, 3);
        x.goes(-1, 0, 0, 2);
        C.due("the longest row", 31, x.count(5));
        x.begin(11);
        C.due("a lesson", 1, x.count(6));
        x.begin(0);
        C.due("another one in its place", 1, x.count(6));
        x.clear();
        for (int what = 0; what <= 6; what++) {
            C.due("empty count(" + what + ")", 0, x.count(what));
        }
    }

    private static void countOfAnotherWhat() {
        C.sentence("10: NONE for another what");
        NetSchool x = Check.school();
        x.begin(0);
        C.due("-1", -1, x.count(-1));
        C.due("7", -1, x.count(7));
        for (int far : Check.FAR) {
            C.due("far", -1, x.count(far));
        }
    }

    private static void nextForOneThatIsNoHost() {
        C.sentence("11: (what 0; of a ROUTER or WALL for one that is no HOST NEAREST)");
        NetSchool x = Check.smallNet();
        for (int host = 0; host < 3; host++) {
            x.route(4, host, 0);
            x.route(5, host, 0);
        }
        C.due("of the ROUTER for the SWITCH", 3, x.next(4, 3, 0));
        C.due("of the ROUTER for the WALL", 5, x.next(4, 5, 0));
        C.due("of the WALL for the SWITCH", 4, x.next(5, 3, 0));
        C.due("of the WALL for the ROUTER", 4, x.next(5, 4, 0));
        C.due("of the WALL for a HOST", 0, x.next(5, 1, 0));
    }

    private static void nextIsWell() {
        C.sentence("11: both WELL");
        NetSchool x = Check.smallNet();
        x.fault(4, 4, 1, 3);
        x.fault(0, 2, 0, 0);
        x.cause(0, 1);
        x.look(3, 4, 1, 0, 1);
        x.begin(0);
        C.due("in the lesson", 3, x.use(0));
        C.due("NEXT", 5, x.next(4, 1, 0));
        C.due("NEAREST", 5, x.next(4, 1, 1));
        C.due("by the cause", 3, x.answer(0, 0));
        C.due("NEXT again", 5, x.next(4, 1, 0));
    }

    private static void nextOfNoneSuch() {
        C.sentence("11: NONE also for none such");
        NetSchool x = Check.smallNet();
        for (int what = 0; what < 2; what++) {
            C.due("next(-1, 1)", -1, x.next(-1, 1, what));
            C.due("next(1, -1)", -1, x.next(1, -1, what));
            C.due("next(6, 1)", -1, x.next(6, 1, what));
            C.due("next(1, 6)", -1, x.next(1, 6, what));
            C.due("next(0, 12)", -1, x.next(0, 12, what));
            for (int far : Check.FAR) {
                C.due("next(far, 1)", -1, x.next(far, 1, what));
                C.due("next(1, far)", -1, x.next(1, far, what));
                C.due("next(far, far)", -1, x.next(far, far, what));
            }
        }
    }

    private static void nextOfOneAlone() {
        C.sentence("11: NONE for one alone");
        NetSchool x = fullNet();
        x.route(10, 0, 11);
        for (int node = 0; node < 12; node++) {
            C.due("NEXT of " + node, -1, x.next(node, node, 0));
            C.due("NEAREST of " + node, -1, x.next(node, node, 1));
        }
    }

    private static void nextOfAnotherWhat() {
        C.sentence("11: NONE for another what");
        NetSchool x = Check.smallNet();
        C.due("-1", -1, x.next(0, 1, -1));
        C.due("2", -1, x.next(0, 1, 2));
        for (int far : Check.FAR) {
            C.due("far", -1, x.next(0, 1, far));
        }
    }
}
