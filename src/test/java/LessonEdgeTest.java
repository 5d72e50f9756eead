/** Promises 23 to 30: each sentence that names a boundary case has a test of its own. */
public final class LessonEdgeTest {
    private static final Check C = new Check("LessonEdgeTest");

    public static void main(String[] args) {
        beginInPlaceOfAny();
        beginWithAllLeft();
        beginOfNoneSuch();
        useWithoutMended();
        useCosts();
        useWithoutLesson();
        useOfNoneSuch();
        leftAsBits();
        leftWithoutLesson();
        mendOneThatIsNotThere();
        mendTellsHowMany();
        mendWithoutLesson();
        mendOfNoneSuch();
        mendOfOneThatWas();
        mendCosts();
        wellOfFew();
        wellBehindMends();
        wellWithoutLesson();
        claimThatIs();
        claimTellsTheFirstLook();
        claimThatNoneParts();
        claimWithoutLesson();
        claimOfNoneSuch();
        claimCosts();
        marksAtFirst();
        marksOfUses();
        marksOfClaimsAndMends();
        markOfWorst();
        markWithoutLesson();
        markOfAnotherWhat();
        rowOfEach();
        rowOfNoneSuch();
        C.end();
    }

    private static NetSchool lesson(int cause) {
        NetSchool x = Check.school();
        x.begin(cause);
        return x;
    }

    private static void dueMarks(String when, NetSchool x, int... want) {
        for (int what = 0; what < want.length; what++) {
            C.due(when + ": mark(" + what + ")", want[what], x.mark(what));
        }
    }

    private static void beginInPlaceOfAny() {
        C.sentence("23: A LESSON with a CAUSE begins (in place of any)");
        NetSchool x = lesson(2);
        x.use(0);
        x.claim(0);
        x.mend(0);
        x.mend(2);
        C.due("another one", true, x.begin(0));
        dueMarks("nothing of the first one", x, 0, 0, 0, 0, 0);
        C.due("nothing is mended", 0, x.use(1));
        C.due("the other cause", 1, x.use(2));
        C.due("it is claimed", -1, x.claim(0));
        C.due("what was mended can be", 0, x.mend(0));
        C.due("the same one again", true, x.begin(0));
        dueMarks("nothing of the second one", x, 0, 0, 0, 0, 0);
        C.due("nothing is mended", 0, x.use(1));
    }

    private static void beginWithAllLeft() {
        C.sentence("23: all CAUSES LEFT: true");
        for (int causes = 1; causes <= 12; causes++) {
            NetSchool x = Check.cables(causes, 1);
            C.due("the last of " + causes, true, x.begin(causes - 1));
            C.due("left of " + causes, (1 << causes) - 1, x.left());
            x.use(0);
            C.due("the first of " + causes, true, x.begin(0));
            C.due("left again of " + causes, (1 << causes) - 1, x.left());
        }
    }

    private static void beginOfNoneSuch() {
        C.sentence("23: false for none such");
        for (int causes = 0; causes <= 12; causes += 4) {
            NetSchool x = Check.cables(causes, 1);
            C.due("-1", false, x.begin(-1));
            C.due("one behind the last", false, x.begin(causes));
            for (int far : Check.FAR) {
                C.due("far", false, x.begin(far));
            }
            C.due("no lesson", 0, x.count(6));
        }
        NetSchool x = lesson(2);
        x.use(1);
        C.due("refused", false, x.begin(4));
        C.due("left as it was", 5, x.left());
        dueMarks("as it was", x, 7, 1, 1, 0, 0, 15);
    }

    private static void useWithoutMended() {
        C.sentence("24: its ANSWER, by the CAUSE without what was MENDED");
        NetSchool x = lesson(2);
        C.due("nothing mended", 0, x.use(1));
        x.mend(2);
        C.due("another one mended", 0, x.use(1));
        x.mend(0);
        C.due("the first one mended", 1, x.use(1));
        C.due("the second one not", 0, x.use(2));
        x.mend(1);
        C.due("both mended", 1, x.use(2));
        C.due("as all is WELL", x.answer(0, -1), x.use(0));
    }

    private static void useCosts() {
        C.sentence("24: MINUTES are its PRICE more");
        NetSchool x = Check.cables(2, 1, 100);
        x.begin(0);
        x.use(0);
        C.due("1", 1, x.mark(0));
        x.use(1);
        C.due("100 more", 101, x.mark(0));
        x.use(0);
        C.due("again, 1 more", 102, x.mark(0));
        x.mend(0);
        x.use(1);
        C.due("behind a mend, 100 more", 207, x.mark(0));
        for (int i = 0; i < 300; i++) {
            x.use(1);
        }
        C.due("300 times more", 30207, x.mark(0));
    }

    private static void useWithoutLesson() {
        C.sentence("24: -2: no LESSON");
        NetSchool x = Check.school();
        for (int look = -1; look <= 3; look++) {
            C.due("none as yet", -2, x.use(look));
        }
        x.begin(0);
        x.name(0, -1);
        C.due("no more", -2, x.use(0));
    }

    private static void useOfNoneSuch() {
        C.sentence("24: -2: none such");
        NetSchool x = lesson(2);
        C.due("-1", -2, x.use(-1));
        C.due("3", -2, x.use(3));
        for (int far : Check.FAR) {
            C.due("far", -2, x.use(far));
        }
        dueMarks("as it was", x, 0, 0, 0, 0, 0, 15);
        C.due("left as it was", 15, x.left());
    }

    private static void leftAsBits() {
        C.sentence("25: LEFT, as bits");
        NetSchool x = Check.cables(12, 1, 1, 1, 1, 1, 1, 1, 1, 1, 1, 1, 1);
        x.begin(11);
        C.due("all twelve", 4095, x.left());
        int want = 4095;
        for (int look = 0; look < 11; look++) {
            x.use(look);
            want &= ~(1 << look);
            C.due("without " + look, want, x.left());
        }
        C.due("the last one alone", 2048, x.left());
        x.use(11);
        C.due("never none", 2048, x.left());
        x.begin(0);
        x.use(0);
        C.due("the first one alone", 1, x.left());
        x = Check.cables(3);
        x.begin(1);
        C.due("no looks", 7, x.left());
    }

    private static void leftWithoutLesson() {
        C.sentence("25: -2: no LESSON");
        NetSchool x = Check.school();
        C.due("none as yet", -2, x.left());
        x.begin(9);
        C.due("none by a refused call", -2, x.left());
        x.begin(0);
        x.look(4, 0, 0, 0, 1);
        C.due("no more", -2, x.left());
    }

    private static void mendOneThatIsNotThere() {
        C.sentence("26: A FAULT is MENDED (also one that is not there)");
        NetSchool x = lesson(0);
        C.due("one that is not there", 1, x.mend(2));
        C.due("it was", -3, x.mend(2));
        C.due("another one", 1, x.mend(1));
        C.due("nothing is better", 0, x.use(1));
        dueMarks("two mended", x, 17, 1, 0, 0, 2);
        C.due("left is not less behind it", 15, x.left());
    }

    private static void mendTellsHowMany() {
        C.sentence("26: how many of the CAUSE are not as yet");
        NetSchool x = lesson(2);
        C.due("two", 2, x.mend(2));
        C.due("one", 1, x.mend(0));
        C.due("none", 0, x.mend(1));
        x = lesson(0);
        C.due("none of one", 0, x.mend(0));
        C.due("none still", 0, x.mend(1));
        x = lesson(2);
        C.due("the second one first", 1, x.mend(1));
        C.due("none", 0, x.mend(0));
        x = Check.smallNet();
        for (int i = 0; i < 12; i++) {
            x.fault(0, 2, 0, 0);
        }
        x.cause(10, 11);
        x.look(4, 2, 0, 0, 1);
        x.begin(0);
        for (int i = 0; i < 10; i++) {
            C.due("two alike ones that are not there", 2, x.mend(i));
        }
        C.due("one of two alike", 1, x.mend(11));
        C.due("the other one still holds", 0, x.use(0));
        C.due("none", 0, x.mend(10));
        C.due("all twelve", 12, x.mark(4));
    }

    private static void mendWithoutLesson() {
        C.sentence("26: -2: no LESSON");
        NetSchool x = Check.school();
        for (int fault = -1; fault <= 3; fault++) {
            C.due("none as yet", -2, x.mend(fault));
        }
        x.begin(0);
        x.mend(0);
        x.on(0, 0, true);
        C.due("no more", -2, x.mend(0));
        C.due("nor another one", -2, x.mend(1));
    }

    private static void mendOfNoneSuch() {
        C.sentence("26: -2: none such");
        NetSchool x = lesson(2);
        C.due("-1", -2, x.mend(-1));
        C.due("3", -2, x.mend(3));
        for (int far : Check.FAR) {
            C.due("far", -2, x.mend(far));
        }
        dueMarks("as it was", x, 0, 0, 0, 0, 0, 15);
        x.use(1);
        C.due("no mend as yet", 5, x.left());
    }

    private static void mendOfOneThatWas() {
        C.sentence("26: -3: it was");
        NetSchool x = lesson(2);
        x.mend(0);
        C.due("it was", -3, x.mend(0));
        C.due("and again", -3, x.mend(0));
        dueMarks("as it was", x, 5, 0, 0, 0, 1);
        C.due("mended still", 1, x.use(1));
        C.due("another one", 0, x.mend(1));
        C.due("the first one", -3, x.mend(0));
        C.due("the second one", -3, x.mend(1));
    }

    private static void mendCosts() {
        C.sentence("26: MINUTES are 5 more");
        NetSchool x = lesson(2);
        for (int fault = 0; fault < 3; fault++) {
            x.mend(fault);
            C.due("5 more", 5 * fault + 5, x.mark(0));
            x.mend(fault);
            C.due("none for one that was", 5 * fault + 5, x.mark(0));
            x.mend(3);
            C.due("none for none such", 5 * fault + 5, x.mark(0));
        }
    }

    private static void wellOfFew() {
        C.sentence("27: Whether all LOOKS have the ANSWERS that they have when all is WELL: 1, 0");
        NetSchool x = Check.cables(2);
        x.begin(0);
        C.due("no looks", 1, x.well());
        x = Check.cables(2, 1);
        x.begin(0);
        C.due("the only look", 0, x.well());
        x.begin(1);
        C.due("it sees nothing", 1, x.well());
        x = Check.cables(12, 1, 1, 1, 1, 1, 1, 1, 1, 1, 1, 1, 1);
        for (int cause = 0; cause < 12; cause++) {
            x.begin(cause);
            C.due("look " + cause + " alone sees it", 0, x.well());
        }
        dueMarks("it costs nothing", x, 0, 0, 0, 0, 0);
        C.due("left as it was", 4095, x.left());
        x = Check.smallNet();
        x.deny(5, 1, 0, true);
        x.fault(0, 2, 0, 0);
        x.cause(0, -1);
        x.look(0, 0, 1, 0, 1);
        x.begin(0);
        C.due("no worse than when all is WELL", 1, x.well());
    }

    private static void wellBehindMends() {
        C.sentence("27: WELL behind mends");
        NetSchool x = lesson(2);
        C.due("nothing mended", 0, x.well());
        x.mend(2);
        C.due("another one mended", 0, x.well());
        x.mend(1);
        C.due("one of two", 0, x.well());
        x.mend(0);
        C.due("both", 1, x.well());
        x.begin(2);
        C.due("another lesson", 0, x.well());
    }

    private static void wellWithoutLesson() {
        C.sentence("27: -2: no LESSON");
        NetSchool x = Check.school();
        C.due("none as yet", -2, x.well());
        x.begin(0);
        x.cause(0, -1);
        C.due("no more", -2, x.well());
    }

    private static void claimThatIs() {
        C.sentence("28: NONE: it is");
        NetSchool x = Check.cables(12, 1);
        for (int cause = 0; cause < 12; cause++) {
            x.begin(cause);
            C.due("" + cause, -1, x.claim(cause));
            C.due("again", -1, x.claim(cause));
            dueMarks("it costs nothing", x, 0, 0, 0, 0, 0);
            C.due("the lesson goes on", 1, x.count(6));
        }
    }

    private static void claimTellsTheFirstLook() {
        C.sentence("28: Else the first LOOK that PARTS the two");
        NetSchool x = Check.cables(12, 1, 1, 1, 1, 1, 1, 1, 1, 1, 1, 1, 1);
        x.begin(10);
        C.due("the first", 0, x.claim(0));
        C.due("of two the first", 9, x.claim(9));
        C.due("the one of the lesson's", 10, x.claim(11));
        x.mend(10);
        C.due("mended or not", 10, x.claim(11));
        x = Check.cables(3, 1);
        x.look(4, 2, 0, 0, 1);
        x.begin(0);
        C.due("by cause 0", 0, x.claim(2));
        x.begin(1);
        C.due("by cause 1", 1, x.claim(2));
    }

    private static void claimThatNoneParts() {
        C.sentence("28: -3 if none does");
        NetSchool x = Check.cables(3, 1);
        x.begin(1);
        C.due("none parts", -3, x.claim(2));
        C.due("one does", 0, x.claim(0));
        x = Check.cables(2);
        x.begin(0);
        C.due("no looks", -3, x.claim(1));
        C.due("it is wrong", 1, x.mark(3));
        C.due("and costs", 10, x.mark(0));
    }

    private static void claimWithoutLesson() {
        C.sentence("28: -2: no LESSON");
        NetSchool x = Check.school();
        for (int cause = -1; cause <= 4; cause++) {
            C.due("none as yet", -2, x.claim(cause));
        }
        x.begin(0);
        x.route(4, 1, -1);
        C.due("no more", -2, x.claim(0));
    }

    private static void claimOfNoneSuch() {
        C.sentence("28: -2: none such");
        NetSchool x = lesson(3);
        C.due("-1", -2, x.claim(-1));
        C.due("4", -2, x.claim(4));
        for (int far : Check.FAR) {
            C.due("far", -2, x.claim(far));
        }
        dueMarks("as it was", x, 0, 0, 0, 0, 0, 15);
    }

    private static void claimCosts() {
        C.sentence("28: MINUTES are 10 more for a claim that is wrong");
        NetSchool x = lesson(2);
        x.claim(0);
        C.due("wrong", 10, x.mark(0));
        x.claim(2);
        C.due("right", 10, x.mark(0));
        x.claim(0);
        C.due("the same wrong one again", 20, x.mark(0));
        x.claim(4);
        C.due("none such", 20, x.mark(0));
        C.due("two were wrong", 2, x.mark(3));
        C.due("left as it was", 15, x.left());
    }

    private static void marksAtFirst() {
        C.sentence("29: 0: MINUTES .. 4: FAULTS that were MENDED, nothing being done");
        dueMarks("at first", lesson(1), 0, 0, 0, 0, 0, 15);
    }

    private static void marksOfUses() {
        C.sentence("29: 1: LOOKS used, 2: those by which LEFT became less");
        NetSchool x = lesson(2);
        x.use(0);
        dueMarks("less", x, 5, 1, 1);
        x.use(0);
        dueMarks("the same again", x, 10, 2, 1);
        x.use(2);
        dueMarks("less again", x, 18, 3, 2);
        x.mend(2);
        x.use(1);
        dueMarks("behind a mend", x, 30, 4, 2);
        x = Check.cables(2, 1, 1, 1);
        x.begin(0);
        x.use(2);
        dueMarks("a look that does not part", x, 1, 1, 0);
    }

    private static void marksOfClaimsAndMends() {
        C.sentence("29: 3: claims that were wrong, 4: FAULTS that were MENDED");
        NetSchool x = lesson(2);
        x.claim(2);
        x.claim(9);
        x.mend(9);
        dueMarks("none", x, 0, 0, 0, 0, 0);
        x.claim(3);
        x.claim(3);
        dueMarks("two claims", x, 20, 0, 0, 2, 0);
        x.mend(2);
        x.mend(2);
        x.mend(1);
        dueMarks("two mends", x, 30, 0, 0, 2, 2);
        x.well();
        x.left();
        dueMarks("asking costs nothing", x, 30, 0, 0, 2, 2);
    }

    private static void markOfWorst() {
        C.sentence("29: 5: WORST of all CAUSES");
        NetSchool x = Check.cables(12, 100, 100, 100, 100, 100, 100, 100, 100, 100, 100, 100);
        x.begin(0);
        C.due("of twelve", 1100, x.mark(5));
        x.use(0);
        C.due("of all, not of those left", 1100, x.mark(5));
        x.mend(0);
        C.due("mended or not", 1100, x.mark(5));
        x = Check.cables(1, 3);
        x.begin(0);
        C.due("of one", 0, x.mark(5));
    }

    private static void markWithoutLesson() {
        C.sentence("29: -2: no LESSON");
        NetSchool x = Check.school();
        for (int what = -1; what <= 6; what++) {
            C.due("none as yet", -2, x.mark(what));
        }
        x.begin(0);
        x.use(0);
        x.deny(5, 1, 0, false);
        for (int what = -1; what <= 6; what++) {
            C.due("no more", -2, x.mark(what));
        }
    }

    private static void markOfAnotherWhat() {
        C.sentence("29: -2: another what");
        NetSchool x = lesson(0);
        C.due("-1", -2, x.mark(-1));
        C.due("6", -2, x.mark(6));
        for (int far : Check.FAR) {
            C.due("far", -2, x.mark(far));
        }
    }

    private static void rowOfEach() {
        C.sentence("30: Number i of the ROW");
        NetSchool x = Check.school();
        x.goes(-1, 0, 1, 0);
        int[] want = {1, 5, 4, 3, 0};
        for (int i = 4; i >= 0; i--) {
            C.due("row(" + i + ")", want[i], x.row(i));
            C.due("row(" + i + ") again", want[i], x.row(i));
        }
        x.route(4, 0, 5);
        x.goes(-1, 0, 1, 0);
        C.due("of the longest, the first", 1, x.row(0));
        C.due("of the longest, the last", 4, x.row(30));
    }

    private static void rowOfNoneSuch() {
        C.sentence("30: NoSuchElementException: none such");
        NetSchool x = Check.school();
        C.dueNoRow("no row", x, 0);
        C.dueNoRow("no row", x, -1);
        x.goes(-1, 0, 1, 0);
        C.dueNoRow("five", x, 5);
        C.dueNoRow("five", x, -1);
        x.goes(-1, 0, 2, 0);
        C.dueNoRow("three behind five", x, 3);
        C.dueNoRow("three behind five", x, 4);
        for (int far : Check.FAR) {
            C.dueNoRow("far", x, far);
        }
        x.cause(1, 0);
        x.fair();
        C.due("the last of two", 4, x.row(1));
        C.dueNoRow("two", x, 2);
        x.route(4, 0, 5);
        x.goes(-1, 0, 1, 0);
        C.dueNoRow("thirty-one", x, 31);
        x.clear();
        C.dueNoRow("cleared", x, 0);
    }
}
