/** Promises 23 to 30: a lesson, and the row. */
public final class LessonTest {
    private static final Check C = new Check("LessonTest");
    private static final int[] FAR = {Integer.MIN_VALUE, -2, -1, 12, 31, 32, 33, Integer.MAX_VALUE};

    public static void main(String[] args) {
        promise23Begin();
        promise24Use();
        promise25Left();
        promise26Mend();
        promise27Well();
        promise28Claim();
        promise29Mark();
        promise30Row();
        askingEndsNoLesson();
        C.end();
    }

    private static void promise23Begin() {
        NetSchool x = Check.school();
        for (int far : FAR) {
            C.due("begin(far)", false, x.begin(far));
        }
        C.due("begin(4)", false, x.begin(4));
        C.due("no lesson", 0, x.count(6));
        C.due("begin(3)", true, x.begin(3));
        C.due("lesson", 1, x.count(6));
        C.due("all left", 15, x.left());
        x.use(0);
        x.claim(0);
        x.mend(0);
        C.due("begin in place of it", true, x.begin(0));
        for (int what = 0; what < 5; what++) {
            C.due("mark of a new lesson", 0, x.mark(what));
        }
        C.due("all left again", 15, x.left());
        C.due("of the new cause", 0, x.use(1));
        C.due("mended no more", 0, x.mend(0));
        C.due("begin(9) refused", false, x.begin(9));
        C.due("the lesson goes on", 12, x.mark(0));
    }

    private static void promise24Use() {
        NetSchool x = Check.school();
        C.due("no lesson", -2, x.use(0));
        x.begin(2);
        for (int far : FAR) {
            C.due("use(far)", -2, x.use(far));
        }
        C.due("use(3)", -2, x.use(3));
        C.due("refused ones cost nothing", 0, x.mark(0));
        C.due("refused ones are not used", 0, x.mark(1));
        C.due("use(0)", 0, x.use(0));
        C.due("minutes", 5, x.mark(0));
        C.due("use(1)", 0, x.use(1));
        C.due("use(2)", 0, x.use(2));
        C.due("minutes", 20, x.mark(0));
        x.mend(0);
        C.due("one mended", 1, x.use(1));
        C.due("the other not", 0, x.use(2));
        C.due("nor the ping", 0, x.use(0));
        x.mend(1);
        C.due("both mended", 1, x.use(2));
        C.due("the ping too", 1, x.use(0));
        C.due("answer() is by the whole cause", 0, x.answer(0, 2));
        C.due("minutes", 63, x.mark(0));
    }

    private static void promise25Left() {
        NetSchool x = Check.school();
        C.due("no lesson", -2, x.left());
        x.begin(2);
        x.use(0);
        C.due("behind the ping", 7, x.left());
        x.use(1);
        C.due("behind a cable", 5, x.left());
        x.use(1);
        C.due("behind it again", 5, x.left());
        x.use(2);
        C.due("the cause alone", 4, x.left());
        x.begin(2);
        x.mend(2);
        x.use(0);
        C.due("behind a mend of one that is not there", 15, x.left());
        x.begin(2);
        x.use(1);
        C.due("ahead of the mend", 5, x.left());
        x.mend(7);
        x.use(2);
        C.due("behind a refused mend", 4, x.left());
        x.begin(3);
        x.use(1);
        C.due("good cable", 10, x.left());
        x.mend(2);
        x.use(2);
        C.due("behind the mend", 10, x.left());
        x.node(0);
        C.due("behind a change", -2, x.left());
    }

    private static void promise26Mend() {
        NetSchool x = Check.school();
        C.due("no lesson", -2, x.mend(0));
        x.begin(2);
        for (int far : FAR) {
            C.due("mend(far)", -2, x.mend(far));
        }
        C.due("mend(3)", -2, x.mend(3));
        C.due("minutes of refused", 0, x.mark(0));
        C.due("mend one that is not there", 2, x.mend(2));
        C.due("minutes", 5, x.mark(0));
        C.due("mend it again", -3, x.mend(2));
        C.due("no minutes", 5, x.mark(0));
        C.due("mend the second", 1, x.mend(1));
        C.due("mend the first", 0, x.mend(0));
        C.due("minutes", 15, x.mark(0));
        C.due("again", -3, x.mend(0));
        C.due("mended", 3, x.mark(4));
        x.begin(0);
        C.due("another lesson", 1, x.mend(1));
        C.due("its fault", 0, x.mend(0));
    }

    private static void promise27Well() {
        NetSchool x = Check.school();
        C.due("no lesson", -2, x.well());
        x.begin(2);
        C.due("not well", 0, x.well());
        x.mend(0);
        C.due("half mended", 0, x.well());
        x.mend(1);
        C.due("mended", 1, x.well());
        C.due("no minutes for it", 10, x.mark(0));
        x.begin(3);
        C.due("no look sees it", 1, x.well());
        x = Check.smallNet();
        x.deny(5, 1, 0, true);
        x.fault(0, 2, 0, 0);
        x.cause(0, -1);
        x.begin(0);
        C.due("no looks", 1, x.well());
        x.look(0, 0, 1, 0, 5);
        x.begin(0);
        C.due("as bad as when all is well", 1, x.well());
        x.look(1, 0, 1, 0, 5);
        x.begin(0);
        C.due("the last look differs", 0, x.well());
        x = Check.smallNet();
        x.fault(0, 2, 0, 0);
        x.cause(0, -1);
        x.look(4, 2, 0, 0, 5);
        x.look(0, 0, 2, 0, 5);
        x.begin(0);
        C.due("the first look differs", 0, x.well());
    }

    private static void promise28Claim() {
        NetSchool x = Check.school();
        C.due("no lesson", -2, x.claim(0));
        x.cause(1, 0);
        x.begin(2);
        for (int far : FAR) {
            C.due("claim(far)", -2, x.claim(far));
        }
        C.due("claim(5)", -2, x.claim(5));
        C.due("no minutes for refused", 0, x.mark(0));
        C.due("claim(0)", 2, x.claim(0));
        C.due("minutes", 10, x.mark(0));
        C.due("claim(1)", 1, x.claim(1));
        C.due("claim(3)", 0, x.claim(3));
        C.due("claim of one that none parts", -3, x.claim(4));
        C.due("minutes", 40, x.mark(0));
        C.due("wrong claims", 4, x.mark(3));
        C.due("claim(2)", -1, x.claim(2));
        C.due("no minutes for the right one", 40, x.mark(0));
        C.due("not wrong", 4, x.mark(3));
        C.due("the lesson goes on", 1, x.count(6));
        C.due("left as before", 31, x.left());
        x.mend(0);
        x.mend(1);
        C.due("mends don't matter", 2, x.claim(0));
        C.due("it is still", -1, x.claim(2));
    }

    private static void promise29Mark() {
        NetSchool x = Check.school();
        for (int what = -1; what < 7; what++) {
            C.due("no lesson", -2, x.mark(what));
        }
        x.begin(2);
        C.due("worst of all", 15, x.mark(5));
        C.due("as worst()", x.worst(15), x.mark(5));
        x.use(0);
        x.use(0);
        x.use(1);
        x.claim(0);
        x.mend(0);
        x.use(2);
        int[] want = {40, 4, 2, 1, 1, 15};
        for (int what = 0; what < 6; what++) {
            C.due("mark(" + what + ")", want[what], x.mark(what));
        }
        for (int far : FAR) {
            C.due("mark(far)", -2, x.mark(far));
        }
        C.due("mark(6)", -2, x.mark(6));
    }

    private static void promise30Row() {
        NetSchool x = Check.school();
        for (int far : FAR) {
            C.dueNoRow("no row", x, far);
        }
        C.dueNoRow("no row", x, 0);
        x.goes(-1, 0, 0, 2);
        C.dueRow("goes", x, 0, 3, 2);
        x.cause(1, 0);
        x.fair();
        C.dueRow("fair", x, 2, 4);
        for (int far : FAR) {
            C.dueNoRow("fair", x, far);
        }
        x.goes(-1, 0, 2, 0);
        C.dueRow("goes again", x, 2, 3, 0);
        x.begin(0);
        x.use(0);
        x.mend(0);
        x.claim(1);
        x.well();
        x.worst(3);
        C.dueRow("a lesson tells no row", x, 2, 3, 0);
        x.clear();
        C.dueNoRow("cleared", x, 0);
    }

    private static void askingEndsNoLesson() {
        NetSchool x = Check.school();
        x.begin(2);
        x.use(0);
        x.goes(0, 0, 0, 1);
        x.answer(0, -1);
        x.fair();
        x.unlike(0, 1);
        x.groups(0);
        x.worst(3);
        x.tells(3);
        x.first(3);
        x.next(0, 1, 0);
        x.count(0);
        x.row(0);
        x.well();
        C.due("lesson", 1, x.count(6));
        C.due("left", 7, x.left());
        C.due("use by its own cause", 0, x.use(1));
    }
}
