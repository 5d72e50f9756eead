/** Promises 1 to 11: the net. */
public final class NetTest {
    private static final Check C = new Check("NetTest");
    private static final int[] FAR = {Integer.MIN_VALUE, -2, 12, 4096, Integer.MAX_VALUE};

    public static void main(String[] args) {
        promise1NewObject();
        promise2Node();
        promise3Line();
        promise4Route();
        promise5Deny();
        promise6On();
        promise7Name();
        promise8Namer();
        promise9Clear();
        promise10Count();
        promise11Next();
        nearestPassesNoHost();
        whatIsToldEndsTheLesson();
        C.end();
    }

    private static void promise1NewObject() {
        NetSchool x = new NetSchool();
        dueNew(x);
        C.due("NONE", -1, NetSchool.NONE);
    }

    private static void dueNew(NetSchool x) {
        for (int what = 0; what <= 6; what++) {
            C.due("new count(" + what + ")", 0, x.count(what));
        }
        C.due("new left()", -2, x.left());
        C.due("new fair()", 0, x.fair());
        C.due("new begin(0)", false, x.begin(0));
        C.due("new worst(1)", -1, x.worst(1));
        C.due("new groups(0)", -1, x.groups(0));
        C.due("new cause(0, -1)", -1, x.cause(0, -1));
        C.dueNoRow("new", x, 0);
        C.dueNoAnswer(x, 0, -1);
    }

    private static void promise2Node() {
        NetSchool x = new NetSchool();
        C.due("node(-1)", -1, x.node(-1));
        C.due("node(4)", -1, x.node(4));
        C.due("node(least)", -1, x.node(Integer.MIN_VALUE));
        for (int i = 0; i < 12; i++) {
            C.due("node", i, x.node(i % 4));
        }
        C.due("a thirteenth node", -1, x.node(0));
        C.due("count(0)", 12, x.count(0));
    }

    private static void promise3Line() {
        NetSchool x = Check.net(0, 1, 1);
        C.due("line(0, 0)", -1, x.line(0, 0));
        C.due("line(0, 3)", -1, x.line(0, 3));
        C.due("line(3, 0)", -1, x.line(3, 0));
        C.due("line(-1, 0)", -1, x.line(-1, 0));
        for (int far : FAR) {
            C.due("line(far, 0)", -1, x.line(far, 0));
            C.due("line(0, far)", -1, x.line(0, far));
        }
        C.due("line(0, 1)", 0, x.line(0, 1));
        C.due("line(0, 1) again", -1, x.line(0, 1));
        C.due("line(1, 0) again", -1, x.line(1, 0));
        C.due("line(2, 1)", 1, x.line(2, 1));
        C.due("count(1)", 2, x.count(1));
        x = Check.net(1, 1, 1, 1, 1, 1, 1);
        int made = 0;
        for (int a = 0; a < 7; a++) {
            for (int b = a + 1; b < 7; b++) {
                C.due("line " + made, made < 20 ? made : -1, x.line(a, b));
                made++;
            }
        }
        C.due("count(1) of full", 20, x.count(1));
    }

    private static void promise4Route() {
        NetSchool x = Check.smallNet();
        C.due("route of router", true, x.route(4, 1, 3));
        C.due("next told", 3, x.next(4, 1, 0));
        C.due("next of another host", 3, x.next(4, 0, 0));
        C.due("route of wall", true, x.route(5, 0, 1));
        C.due("next of wall told", 1, x.next(5, 0, 0));
        C.due("route to no neighbour", true, x.route(4, 1, 2));
        C.due("next is no neighbour", 2, x.next(4, 1, 0));
        C.due("route told no more", true, x.route(4, 1, -1));
        C.due("next is nearest again", 5, x.next(4, 1, 0));
        C.due("route told no more once more", true, x.route(4, 1, -1));
        C.due("route of switch", false, x.route(3, 1, 4));
        C.due("route of host", false, x.route(0, 1, 3));
        C.due("route for switch", false, x.route(4, 3, 5));
        C.due("route for router", false, x.route(5, 4, 1));
        C.due("itself as next", false, x.route(4, 1, 4));
        C.due("none such as next", false, x.route(4, 1, 6));
        C.due("-2 as next", false, x.route(4, 1, -2));
        for (int far : FAR) {
            C.due("route(far, 1, 3)", false, x.route(far, 1, 3));
            C.due("route(4, far, 3)", false, x.route(4, far, 3));
            C.due("route(4, 1, far)", false, x.route(4, 1, far));
        }
        C.due("route(-1, 1, 3)", false, x.route(-1, 1, 3));
        C.due("route(4, -1, 3)", false, x.route(4, -1, 3));
        C.due("next behind refused", 5, x.next(4, 1, 0));
    }

    private static void promise5Deny() {
        NetSchool x = Check.smallNet();
        C.due("goes", 5, x.goes(-1, 2, 0, 1));
        C.due("deny", true, x.deny(5, 1, 2, true));
        C.due("goes denied", 4, x.goes(-1, 2, 0, 1));
        C.dueRow("goes denied", x, 0, 3, 4, 5);
        C.due("goes with another service", 5, x.goes(-1, 3, 0, 1));
        C.due("goes to another host", 5, x.goes(-1, 2, 1, 0));
        C.due("deny again", true, x.deny(5, 1, 2, true));
        C.due("deny no more", true, x.deny(5, 1, 2, false));
        C.due("goes again", 5, x.goes(-1, 2, 0, 1));
        C.due("deny no more, once more", true, x.deny(5, 1, 2, false));
        C.due("deny by router", false, x.deny(4, 1, 2, true));
        C.due("deny by host", false, x.deny(0, 1, 2, true));
        C.due("deny by switch", false, x.deny(3, 1, 2, true));
        C.due("deny to switch", false, x.deny(5, 3, 2, true));
        C.due("deny of service 4", false, x.deny(5, 1, 4, true));
        C.due("deny of service -1", false, x.deny(5, 1, -1, true));
        for (int far : FAR) {
            C.due("deny(far, 1, 2)", false, x.deny(far, 1, 2, true));
            C.due("deny(5, far, 2)", false, x.deny(5, far, 2, true));
            C.due("deny(5, 1, far)", false, x.deny(5, 1, far, true));
        }
        for (int service = 0; service < 4; service++) {
            C.due("goes behind refused", 5, x.goes(-1, service, 0, 1));
            C.due("deny of each", true, x.deny(5, 0, service, true));
            C.due("goes back denied", 2, x.goes(-1, service, 1, 0));
        }
    }

    private static void promise6On() {
        NetSchool x = Check.smallNet();
        x.name(0, 1);
        x.namer(2);
        for (int service = 0; service < 4; service++) {
            x.look(2, 0, 0, service, 1);
            C.due("on at first", 11, x.answer(service, -1));
        }
        C.due("on(1, 3, false)", true, x.on(1, 3, false));
        C.due("not on", 4, x.answer(3, -1));
        C.due("the others are on", 11, x.answer(2, -1));
        C.due("on(1, 3, true)", true, x.on(1, 3, true));
        C.due("on again", 11, x.answer(3, -1));
        x.name(1, 0);
        x.look(2, 2, 1, 0, 1);
        C.due("host 0 is on", 10, x.answer(4, -1));
        C.due("on(0, 0, false)", true, x.on(0, 0, false));
        C.due("host 0 is not on", 4, x.answer(4, -1));
        C.due("on(2, 1, false)", true, x.on(2, 1, false));
        C.due("the namer's service is not on", 1, x.answer(0, -1));
        C.due("on of switch", false, x.on(3, 0, false));
        C.due("on of service 4", false, x.on(1, 4, false));
        C.due("on of service -1", false, x.on(1, -1, false));
        C.due("on(-1, 0)", false, x.on(-1, 0, false));
        for (int far : FAR) {
            C.due("on(far, 0)", false, x.on(far, 0, false));
            C.due("on(0, far)", false, x.on(0, far, false));
        }
    }

    private static void promise7Name() {
        NetSchool x = Check.smallNet();
        x.namer(2);
        for (int name = 0; name < 6; name++) {
            x.look(2, 0, name, 0, 1);
            C.due("name of none at first", 2, x.answer(name, -1));
            C.due("name", true, x.name(name, name % 3));
            C.due("name of host", 10 + name % 3, x.answer(name, -1));
        }
        C.due("name of none", true, x.name(5, -1));
        C.due("it is of none", 2, x.answer(5, -1));
        C.due("name(6, 1)", false, x.name(6, 1));
        C.due("name(-1, 1)", false, x.name(-1, 1));
        C.due("name of switch", false, x.name(1, 3));
        C.due("name of -2", false, x.name(1, -2));
        for (int far : FAR) {
            C.due("name(far, 1)", false, x.name(far, 1));
            C.due("name(1, far)", false, x.name(1, far));
        }
        C.due("name as before", 11, x.answer(1, -1));
    }

    private static void promise8Namer() {
        NetSchool x = Check.smallNet();
        x.name(0, 1);
        x.look(2, 0, 0, 0, 1);
        C.due("no namer at first", 1, x.answer(0, -1));
        C.due("namer(2)", true, x.namer(2));
        C.due("namer is told", 11, x.answer(0, -1));
        C.due("namer of switch", false, x.namer(3));
        C.due("namer of none such", false, x.namer(6));
        for (int far : FAR) {
            C.due("namer(far)", false, x.namer(far));
        }
        C.due("namer as before", 11, x.answer(0, -1));
        C.due("namer(-1)", true, x.namer(-1));
        C.due("no namer", 1, x.answer(0, -1));
    }

    private static void promise9Clear() {
        NetSchool x = new NetSchool();
        C.due("clear of a new one", 0, x.clear());
        for (int round = 0; round < 2; round++) {
            fillAll(x);
            C.due("clear", 6, x.clear());
            dueNew(x);
        }
        for (int kind : new int[] {0, 0, 0, 1, 2, 3}) {
            x.node(kind);
        }
        C.due("no line left", -1, x.next(0, 3, 0));
        C.due("line from 0 on", 0, x.line(0, 3));
        x.line(3, 4);
        x.line(4, 5);
        x.line(5, 1);
        x.line(3, 2);
        C.due("no route, no denial left", 5, x.goes(-1, 2, 0, 1));
        x.look(2, 0, 0, 2, 1);
        C.due("no namer left", 1, x.answer(0, -1));
        x.namer(2);
        C.due("no name left", 2, x.answer(0, -1));
        x.name(0, 1);
        C.due("all is on", 11, x.answer(0, -1));
        x.clear();
        x.node(1);
        C.due("another kind in the same place", -1, x.goes(-1, 0, 0, 1));
        C.due("it is no host", false, x.on(0, 0, true));
        x.node(0);
        x.node(0);
        x.line(1, 0);
        x.line(0, 2);
        C.due("it can be passed", 0, x.next(1, 2, 0));
        C.due("what was a wall is none", false, x.deny(5, 1, 0, true));
        C.due("what was a router is none", false, x.route(4, 1, 0));
        C.due("nor is the next place", false, x.route(3, 1, 0));
        x.clear();
        x.node(3);
        x.node(0);
        C.due("a wall in the first place denies", true, x.deny(0, 1, 0, true));
        C.due("and is told its next", true, x.route(0, 1, 1));
        x.clear();
        x.node(0);
        C.due("a place behind the last node", false, x.on(1, 0, true));
        C.due("a wall behind the last node", false, x.deny(1, 0, 0, true));
        C.due("a gate behind the last node", false, x.route(1, 0, 0));
        wallsBehindTheLastNode(x);
    }

    /** What was a wall ahead of clear() is none as long as its place is free. */
    private static void wallsBehindTheLastNode(NetSchool x) {
        x.clear();
        x.node(0);
        x.node(3);
        x.clear();
        x.node(0);
        C.due("the wall of before", false, x.deny(1, 0, 0, true));
        C.due("the gate of before", false, x.route(1, 0, 0));
        x.clear();
        x.node(3);
        x.node(0);
        x.clear();
        x.node(3);
        C.due("the host of before", false, x.deny(0, 1, 0, true));
        C.due("the namer of before", false, x.namer(1));
    }

    private static void fillAll(NetSchool x) {
        Check.addSmallNet(x);
        x.route(4, 1, 3);
        x.deny(5, 1, 2, true);
        x.on(1, 2, false);
        x.name(0, 1);
        x.namer(2);
        x.fault(0, 0, 0, 0);
        x.cause(0, -1);
        x.look(0, 0, 1, 0, 1);
        x.goes(-1, 0, 0, 1);
        x.begin(0);
        x.use(0);
    }

    private static void promise10Count() {
        NetSchool x = new NetSchool();
        fillAll(x);
        x.fault(0, 1, 0, 0);
        x.fault(0, 2, 0, 0);
        x.cause(1, -1);
        x.look(4, 1, 0, 0, 1);
        x.look(4, 2, 0, 0, 1);
        x.look(4, 3, 0, 0, 1);
        C.due("count(0)", 6, x.count(0));
        C.due("count(1)", 5, x.count(1));
        C.due("count(2)", 3, x.count(2));
        C.due("count(3)", 2, x.count(3));
        C.due("count(4)", 4, x.count(4));
        C.due("count(5)", 31, x.count(5));
        C.due("count(6)", 0, x.count(6));
        x.begin(1);
        C.due("count(6) in a lesson", 1, x.count(6));
        C.due("count(7)", -1, x.count(7));
        C.due("count(-1)", -1, x.count(-1));
        for (int far : FAR) {
            C.due("count(far)", -1, x.count(far));
        }
    }

    private static void promise11Next() {
        NetSchool x = Check.smallNet();
        int[] toHost1 = {3, -1, 3, 4, 5, 1};
        int[] toHost0 = {-1, 5, 3, 0, 3, 4};
        int[] toSwitch = {3, 5, 3, -1, 3, 4};
        for (int node = 0; node < 6; node++) {
            for (int what = 0; what < 2; what++) {
                C.due("next(" + node + ", 1)", toHost1[node], x.next(node, 1, what));
                C.due("next(" + node + ", 0)", toHost0[node], x.next(node, 0, what));
                C.due("next(" + node + ", 3)", toSwitch[node], x.next(node, 3, what));
            }
        }
        x.route(4, 1, 3);
        C.due("next is told", 3, x.next(4, 1, 0));
        C.due("nearest is not", 5, x.next(4, 1, 1));
        x.fault(4, 4, 0, 5);
        x.cause(0, -1);
        x.begin(0);
        C.due("next is well, whatever the lesson", 3, x.next(4, 0, 0));
        C.due("one alone", -1, x.next(4, 4, 0));
        C.due("what 2", -1, x.next(0, 1, 2));
        C.due("what -1", -1, x.next(0, 1, -1));
        for (int far : FAR) {
            C.due("next(far, 1)", -1, x.next(far, 1, 0));
            C.due("next(1, far)", -1, x.next(1, far, 1));
            C.due("next what far", -1, x.next(0, 1, far));
        }
        C.due("next(6, 1)", -1, x.next(6, 1, 1));
        C.due("next(1, 6)", -1, x.next(1, 6, 1));
        C.due("next(-1, 1)", -1, x.next(-1, 1, 0));
        C.due("next(1, -1)", -1, x.next(1, -1, 0));
        x = Check.net(0, 1, 1, 1, 1, 0);
        x.line(0, 2);
        x.line(0, 1);
        x.line(2, 5);
        x.line(1, 3);
        x.line(3, 5);
        C.due("the shorter way", 2, x.next(0, 5, 0));
        x.line(1, 5);
        C.due("of equal ones the least", 1, x.next(0, 5, 0));
        C.due("no way", -1, x.next(0, 4, 0));
        C.due("no way from it", -1, x.next(4, 0, 0));
        x.line(0, 5);
        C.due("the neighbour is it", 5, x.next(0, 5, 0));
    }

    private static void nearestPassesNoHost() {
        NetSchool x = Check.net(0, 0, 0, 1, 1, 1);
        x.line(0, 1);
        x.line(1, 2);
        C.due("only past a host", -1, x.next(0, 2, 0));
        C.due("a host beside", 1, x.next(0, 1, 0));
        x.line(0, 3);
        x.line(3, 4);
        x.line(4, 5);
        x.line(5, 2);
        C.due("round the host", 3, x.next(0, 2, 0));
        x.line(3, 1);
        C.due("not past the host behind the neighbour", 4, x.next(3, 2, 0));
        C.due("a host that is the last one", 1, x.next(3, 1, 0));
        C.due("not back past the first host", 0, x.next(1, 0, 0));
    }

    private static void whatIsToldEndsTheLesson() {
        NetSchool x = Check.smallNet();
        x.fault(0, 0, 0, 0);
        x.cause(0, -1);
        for (int call = 0; call < 8; call++) {
            x.begin(0);
            tell(x, call, true);
            C.due("the lesson goes on behind refused call " + call, 1, x.count(6));
            tell(x, call, false);
            C.due("lesson ended by call " + call, 0, x.count(6));
            C.due("left() behind call " + call, -2, x.left());
        }
        x = Check.smallNet();
        x.fault(0, 0, 0, 0);
        x.cause(0, -1);
        x.begin(0);
        x.clear();
        C.due("lesson ended by clear", 0, x.count(6));
    }

    private static void tell(NetSchool x, int call, boolean refused) {
        switch (call) {
            case 0: x.node(refused ? 4 : 1); break;
            case 1: x.line(0, refused ? 3 : 6); break;
            case 2: x.route(4, 1, refused ? 4 : -1); break;
            case 3: x.deny(5, 1, refused ? 4 : 0, false); break;
            case 4: x.on(1, refused ? 4 : 0, true); break;
            case 5: x.name(refused ? 6 : 0, -1); break;
            case 6: x.namer(refused ? -2 : -1); break;
            default: x.look(0, 0, 1, 0, refused ? 0 : 1); break;
        }
    }
}
