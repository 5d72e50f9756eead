/** Promises 12 to 22: each sentence that names a boundary case has a test of its own. */
public final class DoctorEdgeTest {
    private static final Check C = new Check("DoctorEdgeTest");
    private static final int[] NO_SETS = {
        Integer.MIN_VALUE, Integer.MIN_VALUE + 1, -4096, -1, 0, 4096, 4097, 8191, 1 << 16, 1 << 30, Integer.MAX_VALUE,
    };

    public static void main(String[] args) {
        faultNotAsItsKindTells();
        faultNumbersThatItHasNot();
        fault12();
        causeOfNoneSuch();
        causeWithoutSecond();
        causeOfBothAlike();
        cause12();
        lookNotAsItsKindTells();
        lookNumbersThatItHasNot();
        lookOfAnotherPrice();
        look12();
        answerByNone();
        answerOfNoneSuch();
        goesTellsTheRow();
        goesByNone();
        goesOfNoneSuch();
        goesOfOneHostAlone();
        unlikeAsBits();
        unlikeOfNoneSuch();
        fairOfFew();
        fairTellsTheFirstTwo();
        groupsOfAll();
        groupsOfNoneSuch();
        worstOfBits();
        worstOfOtherBits();
        worstOfNoBits();
        tellsTheFewest();
        tellsTheLeastPrice();
        tellsTheLeastNumber();
        tellsIfNoneDoes();
        tellsOfOtherBits();
        firstOfTheLeastNumber();
        firstIfNoneDoes();
        firstOfOtherBits();
        C.end();
    }

    private static void faultNotAsItsKindTells() {
        C.sentence("12: NONE: numbers not as its KIND tells");
        NetSchool x = Check.smallNet();
        int[][] refused = {
            {-1, 0, 0, 0}, {6, 0, 0, 0},
            {0, -1, 0, 0}, {0, 5, 0, 0},
            {1, -1, 0, 0}, {1, 3, 0, 0}, {1, 4, 0, 0}, {1, 5, 0, 0}, {1, 6, 0, 0},
            {2, -1, 0, 0}, {2, 6, 0, 0}, {2, 0, -1, 0}, {2, 0, 3, 0}, {2, 0, 6, 0},
            {3, -1, 1, 0}, {3, 0, 1, 0}, {3, 3, 1, 0}, {3, 4, 1, 0}, {3, 6, 1, 0},
            {3, 5, -1, 0}, {3, 5, 3, 0}, {3, 5, 5, 0}, {3, 5, 6, 0}, {3, 5, 1, -1}, {3, 5, 1, 4},
            {4, -1, 1, 3}, {4, 0, 1, 3}, {4, 3, 1, 4}, {4, 6, 1, 3},
            {4, 4, -1, 3}, {4, 4, 3, 5}, {4, 4, 6, 3}, {4, 4, 1, -1}, {4, 4, 1, 4}, {4, 5, 1, 5}, {4, 4, 1, 6},
            {5, -1, 0, 0}, {5, 3, 0, 0}, {5, 6, 0, 0}, {5, 1, -1, 0}, {5, 1, 4, 0},
        };
        for (int[] r : refused) {
            C.due(r[0] + " " + r[1] + " " + r[2] + " " + r[3], -1, x.fault(r[0], r[1], r[2], r[3]));
        }
        int[][] good = {{0, 0, 0, 0}, {1, 0, 0, 0}, {2, 0, 0, 0}, {3, 5, 0, 0}, {4, 4, 0, 3}, {5, 0, 0, 0}};
        for (int far : Check.FAR) {
            C.due("kind far", -1, x.fault(far, 0, 0, 0));
            for (int[] g : good) {
                C.due(g[0] + " a far", -1, x.fault(g[0], far, g[2], g[3]));
                if (g[0] >= 2) {
                    C.due(g[0] + " b far", -1, x.fault(g[0], g[1], far, g[3]));
                }
                if (g[0] == 3 || g[0] == 4) {
                    C.due(g[0] + " c far", -1, x.fault(g[0], g[1], g[2], far));
                }
            }
        }
        C.due("none is there", 0, x.count(2));
        C.due("the first number is free still", 0, x.fault(0, 4, 0, 0));
    }

    private static void faultNumbersThatItHasNot() {
        C.sentence("12: (those that it has not don't matter)");
        for (int far : new int[] {Integer.MIN_VALUE, -1, 99, Integer.MAX_VALUE}) {
            NetSchool x = Check.smallNet();
            x.namer(2);
            C.due("cable", 0, x.fault(0, 2, far, far));
            C.due("address", 1, x.fault(1, 1, far, far));
            C.due("name", 2, x.fault(2, 5, 1, far));
            C.due("service", 3, x.fault(5, 2, 1, far));
            for (int i = 0; i < 4; i++) {
                x.cause(i, -1);
            }
            x.look(4, 2, far, far, 1);
            x.look(1, 0, 1, far, 1);
            x.look(2, 0, 5, 0, 1);
            C.due("cut", 0, x.answer(0, 0));
            C.due("astray", 4, x.answer(1, 1));
            C.due("named", 11, x.answer(2, 2));
            C.due("not on", 1, x.answer(2, 3));
        }
    }

    private static void fault12() {
        C.sentence("12: NONE: 12");
        NetSchool x = Check.smallNet();
        int[][] good = {{0, 4, 0, 0}, {1, 2, 0, 0}, {2, 5, 2, 0}, {3, 5, 2, 3}, {4, 5, 2, 4}, {5, 2, 3, 0}};
        for (int i = 0; i < 12; i++) {
            int[] g = good[i % 6];
            C.due("fault " + i, i, x.fault(g[0], g[1], g[2], g[3]));
        }
        for (int[] g : good) {
            C.due("a thirteenth", -1, x.fault(g[0], g[1], g[2], g[3]));
        }
        C.due("count(2)", 12, x.count(2));
        C.due("a cause of a thirteenth", -1, x.cause(12, -1));
    }

    private static void causeOfNoneSuch() {
        C.sentence("13: NONE: none such");
        NetSchool x = Check.smallNet();
        C.due("no faults", -1, x.cause(0, -1));
        x.fault(0, 0, 0, 0);
        x.fault(0, 1, 0, 0);
        C.due("first none", -1, x.cause(-1, -1));
        C.due("first none, second one", -1, x.cause(-1, 0));
        C.due("first 2", -1, x.cause(2, -1));
        C.due("first 2, second 0", -1, x.cause(2, 0));
        C.due("second 2", -1, x.cause(0, 2));
        C.due("second -2", -1, x.cause(0, -2));
        for (int far : Check.FAR) {
            C.due("first far", -1, x.cause(far, -1));
            C.due("first far, second one", -1, x.cause(far, 1));
            C.due("second far", -1, x.cause(0, far));
            C.due("both far", -1, x.cause(far, far));
        }
        C.due("none is there", 0, x.count(3));
        C.due("the first number is free still", 0, x.cause(1, 0));
    }

    private static void causeWithoutSecond() {
        C.sentence("13: and a second one (NONE: none)");
        NetSchool x = Check.smallNet();
        x.fault(0, 0, 0, 0);
        x.fault(0, 1, 0, 0);
        C.due("without", 0, x.cause(0, -1));
        C.due("with", 1, x.cause(0, 1));
        x.look(4, 1, 0, 0, 1);
        C.due("without", 1, x.answer(0, 0));
        C.due("with", 0, x.answer(0, 1));
        x.begin(0);
        C.due("one in all", 1, x.mend(1));
        C.due("none left", 0, x.mend(0));
    }

    private static void causeOfBothAlike() {
        C.sentence("13: NONE: both alike");
        NetSchool x = Check.smallNet();
        for (int i = 0; i < 12; i++) {
            x.fault(0, i % 2, 0, 0);
        }
        for (int i = 0; i < 12; i++) {
            C.due(i + " twice", -1, x.cause(i, i));
        }
        C.due("none is there", 0, x.count(3));
        C.due("two faults told in the same way are two", 0, x.cause(0, 2));
        C.due("one cause twice is two", 1, x.cause(0, 2));
    }

    private static void cause12() {
        C.sentence("13: NONE: 12");
        NetSchool x = Check.smallNet();
        x.fault(0, 0, 0, 0);
        x.fault(0, 1, 0, 0);
        for (int i = 0; i < 12; i++) {
            C.due("cause " + i, i, x.cause(i % 2, i % 3 == 0 ? 1 - i % 2 : -1));
        }
        C.due("a thirteenth", -1, x.cause(0, -1));
        C.due("a thirteenth of two", -1, x.cause(0, 1));
        C.due("count(3)", 12, x.count(3));
        C.due("goes by a thirteenth", -1, x.goes(12, 0, 0, 1));
        C.due("goes by the last one", 2, x.goes(11, 0, 0, 1));
    }

    private static void lookNotAsItsKindTells() {
        C.sentence("14: NONE: numbers not as its KIND tells");
        NetSchool x = Check.smallNet();
        int[][] refused = {
            {-1, 0, 1, 0}, {5, 0, 1, 0},
            {0, -1, 1, 0}, {0, 3, 1, 0}, {0, 6, 1, 0}, {0, 0, -1, 0}, {0, 0, 3, 0}, {0, 0, 6, 0}, {0, 0, 0, 0}, {0, 2, 2, 0},
            {1, -1, 1, 0}, {1, 4, 1, 0}, {1, 6, 1, 0}, {1, 0, -1, 0}, {1, 0, 5, 0}, {1, 0, 6, 0}, {1, 0, 0, 0}, {1, 2, 2, 0},
            {2, -1, 0, 0}, {2, 3, 0, 0}, {2, 6, 0, 0}, {2, 0, -1, 0}, {2, 0, 6, 0}, {2, 0, 0, -1}, {2, 0, 0, 4},
            {3, -1, 1, 0}, {3, 0, 1, 0}, {3, 3, 1, 0}, {3, 6, 1, 0}, {3, 4, -1, 0}, {3, 4, 3, 0}, {3, 4, 5, 0}, {3, 4, 6, 0},
            {4, -1, 0, 0}, {4, 5, 0, 0},
        };
        for (int[] r : refused) {
            C.due(r[0] + " " + r[1] + " " + r[2] + " " + r[3], -1, x.look(r[0], r[1], r[2], r[3], 1));
        }
        int[][] good = {{0, 0, 1, 0}, {1, 0, 1, 0}, {2, 0, 0, 0}, {3, 4, 0, 0}, {4, 0, 0, 0}};
        for (int far : Check.FAR) {
            C.due("kind far", -1, x.look(far, 0, 1, 0, 1));
            for (int[] g : good) {
                C.due(g[0] + " a far", -1, x.look(g[0], far, g[2], g[3], 1));
                if (g[0] < 4) {
                    C.due(g[0] + " b far", -1, x.look(g[0], g[1], far, g[3], 1));
                }
                if (g[0] == 2) {
                    C.due(g[0] + " c far", -1, x.look(g[0], g[1], g[2], far, 1));
                }
            }
        }
        C.due("none is there", 0, x.count(4));
        C.due("the first number is free still", 0, x.look(4, 4, 0, 0, 1));
    }

    private static void lookNumbersThatItHasNot() {
        C.sentence("14: numbers as its KIND tells, the others being free");
        for (int far : new int[] {Integer.MIN_VALUE, -1, 99, Integer.MAX_VALUE}) {
            NetSchool x = Check.smallNet();
            C.due("ping", 0, x.look(0, 0, 1, far, 1));
            C.due("trace", 1, x.look(1, 0, 1, far, 1));
            C.due("table", 2, x.look(3, 4, 1, far, 1));
            C.due("cable", 3, x.look(4, 4, far, far, 1));
            int[] want = {1, 104, 5, 1};
            for (int look = 0; look < 4; look++) {
                C.due("answer(" + look + ")", want[look], x.answer(look, -1));
            }
        }
    }

    private static void lookOfAnotherPrice() {
        C.sentence("14: NONE: another PRICE");
        NetSchool x = Check.smallNet();
        int[][] good = {{0, 0, 1, 0}, {1, 0, 1, 0}, {2, 0, 0, 0}, {3, 4, 0, 0}, {4, 0, 0, 0}};
        int made = 0;
        for (int[] g : good) {
            for (int price : new int[] {Integer.MIN_VALUE, -100, -1, 0, 101, 200, 257, 1 << 30, Integer.MAX_VALUE}) {
                C.due(g[0] + " at " + price, -1, x.look(g[0], g[1], g[2], g[3], price));
            }
            for (int price : new int[] {1, 100}) {
                C.due(g[0] + " at " + price, made, x.look(g[0], g[1], g[2], g[3], price));
                made++;
            }
        }
        C.due("count(4)", made, x.count(4));
    }

    private static void look12() {
        C.sentence("14: NONE: 12");
        NetSchool x = Check.smallNet();
        int[][] good = {{0, 0, 1, 0}, {1, 0, 1, 0}, {2, 0, 0, 0}, {3, 4, 0, 0}, {4, 0, 0, 0}};
        for (int i = 0; i < 12; i++) {
            int[] g = good[i % 5];
            C.due("look " + i, i, x.look(g[0], g[1], g[2], g[3], 1));
        }
        for (int[] g : good) {
            C.due("a thirteenth", -1, x.look(g[0], g[1], g[2], g[3], 1));
        }
        C.due("count(4)", 12, x.count(4));
        C.due("the last one", 104, x.answer(11, -1));
        C.dueNoAnswer(x, 12, -1);
    }

    private static void answerByNone() {
        C.sentence("15: (NONE: all being WELL)");
        NetSchool x = Check.smallNet();
        x.look(0, 0, 1, 0, 1);
        C.due("there being no cause", 1, x.answer(0, -1));
        x.fault(0, 0, 0, 0);
        x.cause(0, -1);
        C.due("by the cause", 0, x.answer(0, 0));
        C.due("by none", 1, x.answer(0, -1));
    }

    private static void answerOfNoneSuch() {
        C.sentence("15: NoSuchElementException: none such");
        NetSchool x = Check.school();
        for (int cause = -1; cause < 4; cause++) {
            C.dueNoAnswer(x, -1, cause);
            C.dueNoAnswer(x, 3, cause);
            for (int far : Check.FAR) {
                C.dueNoAnswer(x, far, cause);
            }
        }
        for (int look = 0; look < 3; look++) {
            C.dueNoAnswer(x, look, -2);
            C.dueNoAnswer(x, look, 4);
            for (int far : Check.FAR) {
                C.dueNoAnswer(x, look, far);
            }
        }
        C.dueNoAnswer(x, 3, 4);
        C.due("the last of both", 1, x.answer(2, 3));
    }

    private static void goesTellsTheRow() {
        C.sentence("16: The ROW: the NODES at which a LETTER is, one by one: how many");
        NetSchool x = Check.school();
        C.due("by cause 0", 3, x.goes(0, 0, 0, 1));
        C.dueRow("by cause 0", x, 0, 3, 4);
        C.due("by cause 1", 4, x.goes(1, 0, 0, 1));
        C.dueRow("by cause 1", x, 0, 3, 4, 5);
        C.due("back by cause 1", 1, x.goes(1, 0, 1, 0));
        C.dueRow("back by cause 1", x, 1);
        x = Check.net(0, 0, 2);
        x.line(0, 2);
        x.line(2, 1);
        x.route(2, 1, 0);
        C.due("at the most", 31, x.goes(-1, 0, 0, 1));
        C.due("the last of them", 0, x.row(30));
        C.dueNoRow("no more", x, 31);
        C.due("fewer again", 3, x.goes(-1, 0, 1, 0));
        C.dueRow("fewer again", x, 1, 2, 0);
    }

    private static void goesByNone() {
        C.sentence("16: by a CAUSE (NONE: WELL)");
        NetSchool x = Check.smallNet();
        C.due("there being no cause", 5, x.goes(-1, 3, 0, 1));
        x.fault(0, 0, 0, 0);
        x.cause(0, -1);
        x.begin(0);
        C.due("by none in a lesson", 5, x.goes(-1, 3, 0, 1));
        C.due("by the cause", 1, x.goes(0, 3, 0, 1));
        x.mend(0);
        C.due("by the cause, though it is mended", 1, x.goes(0, 3, 0, 1));
    }

    private static void goesOfNoneSuch() {
        C.sentence("16: NONE: none such");
        NetSchool x = Check.school();
        x.goes(-1, 0, 2, 0);
        C.due("cause 4", -1, x.goes(4, 0, 0, 1));
        C.due("cause -2", -1, x.goes(-2, 0, 0, 1));
        C.due("service -1", -1, x.goes(-1, -1, 0, 1));
        C.due("service 4", -1, x.goes(-1, 4, 0, 1));
        for (int node = 3; node <= 6; node++) {
            C.due("from " + node, -1, x.goes(-1, 0, node, 1));
            C.due("to " + node, -1, x.goes(-1, 0, 0, node));
        }
        C.due("from -1", -1, x.goes(-1, 0, -1, 1));
        C.due("to -1", -1, x.goes(-1, 0, 0, -1));
        for (int far : Check.FAR) {
            C.due("cause far", -1, x.goes(far, 0, 0, 1));
            C.due("service far", -1, x.goes(-1, far, 0, 1));
            C.due("from far", -1, x.goes(-1, 0, far, 1));
            C.due("to far", -1, x.goes(-1, 0, 0, far));
        }
        C.dueRow("the row is as it was", x, 2, 3, 0);
    }

    private static void goesOfOneHostAlone() {
        C.sentence("16: NONE: one HOST alone");
        NetSchool x = Check.school();
        x.goes(-1, 0, 2, 0);
        for (int host = 0; host < 3; host++) {
            C.due("" + host, -1, x.goes(-1, 0, host, host));
        }
        C.dueRow("the row is as it was", x, 2, 3, 0);
    }

    private static void unlikeAsBits() {
        C.sentence("17: LOOKS that PART two CAUSES, as bits");
        NetSchool x = Check.cables(3);
        C.due("no looks", 0, x.unlike(0, 1));
        for (int i = 0; i < 12; i++) {
            x.look(4, i % 2, 0, 0, 1);
        }
        C.due("all twelve", 4095, x.unlike(0, 1));
        C.due("each other one", 1365, x.unlike(0, 2));
        C.due("the others", 2730, x.unlike(2, 1));
        C.due("from itself", 0, x.unlike(1, 1));
        C.due("the other way", 1365, x.unlike(2, 0));
    }

    private static void unlikeOfNoneSuch() {
        C.sentence("17: NONE: none such");
        NetSchool x = Check.cables(3, 1, 1);
        C.due("unlike(-1, 0)", -1, x.unlike(-1, 0));
        C.due("unlike(0, -1)", -1, x.unlike(0, -1));
        C.due("unlike(3, 0)", -1, x.unlike(3, 0));
        C.due("unlike(0, 3)", -1, x.unlike(0, 3));
        C.due("unlike(3, 3)", -1, x.unlike(3, 3));
        C.due("unlike(12, 12)", -1, Check.cables(12, 1).unlike(12, 12));
        for (int far : Check.FAR) {
            C.due("unlike(far, 0)", -1, x.unlike(far, 0));
            C.due("unlike(0, far)", -1, x.unlike(0, far));
            C.due("unlike(far, far)", -1, x.unlike(far, far));
        }
    }

    private static void fairOfFew() {
        C.sentence("18: 0: each two CAUSES are PARTED by some LOOK");
        C.due("no cause, no look", 0, Check.cables(0).fair());
        C.due("no cause", 0, Check.cables(0, 1).fair());
        C.due("one cause, no look", 0, Check.cables(1).fair());
        C.due("two causes, no look", 1, Check.cables(2).fair());
        C.due("two causes, one look", 0, Check.cables(2, 1).fair());
        C.due("three causes, one look", 1, Check.cables(3, 1).fair());
        C.due("twelve causes, eleven looks", 0, Check.cables(12, 1, 1, 1, 1, 1, 1, 1, 1, 1, 1, 1).fair());
        NetSchool x = Check.school();
        C.due("fair", 0, x.fair());
        C.dueRow("it tells no row", x);
        x.goes(-1, 0, 2, 0);
        C.due("fair", 0, x.fair());
        C.dueRow("it leaves the row as it was", x, 2, 3, 0);
    }

    private static void fairTellsTheFirstTwo() {
        C.sentence("18: 1: the ROW: the first two that are not (the first one's number first)");
        NetSchool x = Check.cables(12, 1, 1, 1, 1, 1, 1, 1, 1, 1, 1);
        C.due("the last two", 1, x.fair());
        C.dueRow("the last two", x, 10, 11);
        x = Check.cables(12);
        C.due("no look", 1, x.fair());
        C.dueRow("no look", x, 0, 1);
        x = Check.cables(4, 1, 1, 1, 1);
        x.cause(2, -1);
        x.cause(1, -1);
        C.due("1 with 5, 2 with 4", 1, x.fair());
        C.dueRow("the least first one", x, 1, 5);
        x.cause(1, -1);
        C.due("1 with 5 and 6", 1, x.fair());
        C.dueRow("then the least second one", x, 1, 5);
    }

    private static void groupsOfAll() {
        C.sentence("19: How many unlike ANSWERS a LOOK has by all CAUSES");
        C.due("no cause", 0, Check.cables(0, 1).groups(0));
        C.due("one cause", 1, Check.cables(1, 1).groups(0));
        C.due("alike answers", 1, Check.cables(2, 1, 1, 1).groups(2));
        C.due("two answers by twelve", 2, Check.cables(12, 1).groups(0));
        NetSchool x = Check.net(0, 1, 1, 1, 1, 1, 1, 1, 1, 1, 1, 0);
        for (int i = 1; i < 12; i++) {
            x.line(i - 1, i);
            x.fault(0, i - 1, 0, 0);
            x.cause(i - 1, -1);
        }
        x.fault(5, 0, 0, 0);
        x.cause(11, -1);
        x.look(1, 0, 11, 0, 1);
        C.due("twelve answers by twelve", 12, x.groups(0));
        x.begin(0);
        x.use(0);
        C.due("all, not those left", 12, x.groups(0));
    }

    private static void groupsOfNoneSuch() {
        C.sentence("19: NONE: none such");
        NetSchool x = Check.cables(2, 1, 1);
        C.due("groups(-1)", -1, x.groups(-1));
        C.due("groups(2)", -1, x.groups(2));
        for (int far : Check.FAR) {
            C.due("groups(far)", -1, x.groups(far));
        }
        C.due("groups(0) of none", -1, Check.cables(2).groups(0));
        C.due("groups(12) of twelve", -1, Check.cables(2, 1, 1, 1, 1, 1, 1, 1, 1, 1, 1, 1, 1).groups(12));
    }

    private static void worstOfBits() {
        C.sentence("20: WORST of a set of CAUSES, as bits");
        NetSchool x = Check.cables(12, 100, 100, 100, 100, 100, 100, 100, 100, 100, 100, 100, 100);
        C.due("all of twelve", 1100, x.worst(4095));
        C.due("all but the last", 1000, x.worst(2047));
        C.due("the last two", 100, x.worst(3072));
        C.due("the first and the last", 100, x.worst(2049));
        for (int cause = 0; cause < 12; cause++) {
            C.due(cause + " alone", 0, x.worst(1 << cause));
        }
    }

    private static void worstOfOtherBits() {
        C.sentence("20: NONE: other bits");
        for (int causes = 0; causes <= 12; causes++) {
            NetSchool x = Check.cables(causes, 1);
            C.due("the first bit that is of none, of " + causes, -1, x.worst(1 << causes));
            C.due("with others, of " + causes, -1, x.worst((1 << causes + 1) - 1));
            C.due("with the first one, of " + causes, -1, x.worst(1 << causes | 1));
            for (int set : NO_SETS) {
                C.due("worst(" + set + ")", -1, x.worst(set));
            }
            if (causes > 0) {
                C.due("all, of " + causes, causes == 1 ? 0 : 1, x.worst((1 << causes) - 1));
            }
        }
    }

    private static void worstOfNoBits() {
        C.sentence("20: NONE: 0");
        C.due("of no causes", -1, Check.cables(0).worst(0));
        C.due("of one", -1, Check.cables(1, 1).worst(0));
        C.due("of twelve", -1, Check.cables(12, 1).worst(0));
    }

    /** Causes: cut of lines 0 .. 4 of the small net. */
    private static NetSchool fiveCuts() {
        NetSchool x = Check.smallNet();
        for (int line = 0; line < 5; line++) {
            x.fault(0, line, 0, 0);
            x.cause(line, -1);
        }
        return x;
    }

    private static void tellsTheFewest() {
        C.sentence("21: the one of which the most CAUSES of one ANSWER are the fewest");
        NetSchool x = fiveCuts();
        x.look(4, 0, 0, 0, 1);
        x.look(0, 0, 2, 0, 100);
        C.due("three of five, though dearer", 1, x.tells(31));
        x.look(1, 0, 1, 0, 100);
        C.due("one of five", 2, x.tells(31));
        x = Check.smallNet();
        int[][] faults = {{0, 0, 0}, {0, 4, 0}, {0, 1, 0}, {0, 2, 0}, {5, 1, 2}, {5, 1, 3}};
        for (int i = 0; i < 6; i++) {
            x.fault(faults[i][0], faults[i][1], faults[i][2], 0);
            x.cause(i, -1);
        }
        x.look(1, 0, 2, 0, 1);
        x.look(0, 2, 1, 0, 100);
        C.due("more answers: 1, 1 and 4 causes", 3, x.groups(0));
        C.due("fewer answers: 3 and 3 causes", 2, x.groups(1));
        C.due("the most count, not the answers", 1, x.tells(63));
        C.due("of another set the other one", 0, x.tells(7));
    }

    private static void tellsTheLeastPrice() {
        C.sentence("21: of equal ones the least PRICE");
        NetSchool x = Check.cables(4, 3, 2, 100, 1);
        C.due("of four", 3, x.tells(15));
        C.due("of the first three", 1, x.tells(7));
        C.due("the one that parts", 0, Check.cables(2, 100).tells(3));
        C.due("100 against 99", 1, Check.cables(2, 100, 99).tells(3));
        C.due("1 against 2", 0, Check.cables(2, 1, 2).tells(3));
    }

    private static void tellsTheLeastNumber() {
        C.sentence("21: then number");
        NetSchool x = Check.cables(12, 5, 5, 5, 5, 5, 5, 5, 5, 5, 5, 5, 5);
        C.due("of all", 0, x.tells(4095));
        C.due("of the last two", 10, x.tells(3072));
        C.due("a look that does not part is none of them", 2, Check.cables(4, 5, 5, 5).tells(12));
    }

    private static void tellsIfNoneDoes() {
        C.sentence("21: NONE: none does");
        C.due("no looks", -1, Check.cables(12).tells(4095));
        NetSchool x = Check.cables(4, 5, 5);
        for (int cause = 0; cause < 4; cause++) {
            C.due("one cause", -1, x.tells(1 << cause));
        }
        C.due("two that none parts", -1, x.tells(12));
        C.due("three of which one is parted", 1, x.tells(14));
    }

    private static void tellsOfOtherBits() {
        C.sentence("21: NONE: other bits, 0");
        for (int causes = 0; causes <= 12; causes += 3) {
            NetSchool x = Check.cables(causes, 1, 2);
            C.due("the first bit that is of none", -1, x.tells(1 << causes));
            C.due("with others", -1, x.tells((1 << causes + 1) - 1));
            for (int set : NO_SETS) {
                C.due("tells(" + set + ")", -1, x.tells(set));
            }
        }
    }

    private static void firstOfTheLeastNumber() {
        C.sentence("22: The first LOOK with which a way of WORST begins (the least number)");
        NetSchool x = Check.cables(3, 9, 4, 5);
        C.due("worst", 9, x.worst(7));
        C.due("not the first that parts", 1, x.first(7));
        C.due("not that by which the worst way ends", 1, x.first(3));
        C.due("of the last two", 1, x.first(6));
        C.due("of the outer two", 2, x.first(5));
        x = Check.cables(12, 100, 100, 100, 100, 100, 100, 100, 100, 100, 100, 100, 100);
        C.due("of equal ones", 0, x.first(4095));
        C.due("of the last two", 10, x.first(3072));
    }

    private static void firstIfNoneDoes() {
        C.sentence("22: NONE as tells(): none does");
        C.due("no looks", -1, Check.cables(12).first(4095));
        NetSchool x = Check.cables(4, 5, 5);
        for (int cause = 0; cause < 4; cause++) {
            C.due("one cause", -1, x.first(1 << cause));
        }
        C.due("two that none parts", -1, x.first(12));
        C.due("three of which one is parted", 1, x.first(14));
    }

    private static void firstOfOtherBits() {
        C.sentence("22: NONE as tells(): other bits, 0");
        for (int causes = 0; causes <= 12; causes += 3) {
            NetSchool x = Check.cables(causes, 1, 2);
            C.due("the first bit that is of none", -1, x.first(1 << causes));
            C.due("with others", -1, x.first((1 << causes + 1) - 1));
            for (int set : NO_SETS) {
                C.due("first(" + set + ")", -1, x.first(set));
            }
        }
    }
}
