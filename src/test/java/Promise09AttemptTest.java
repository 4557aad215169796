/** Promise 9: attempt, with what a TRY and RIGHT WAYS are. Each test is of one boundary that the document names. */
public final class Promise09AttemptTest {
    private static final int NONE = PracticeGround.NONE;
    private static final int LEAST = Integer.MIN_VALUE;
    private static final int GREATEST = Integer.MAX_VALUE;
    private static final String[] ZEROS = {"r=0", "r=a", "r=b", "r=c", "r=0+0", "r=0-0", "r=0*0", "r=a+b", "r=a-b",
        "r=a*b", "r=b*a", "r=b-a"};

    public static void main(String[] args) {
        Check.all(Promise09AttemptTest.class);
    }

    /** TASKS with one WORLD each: r 0 is due of 0 and 0. */
    private static PracticeGround zeros(int tasks) {
        PracticeGround ground = new PracticeGround();
        for (int i = 0; i < tasks; i++) {
            ground.task(0, 0);
            ground.world(i, 0, 0, 0);
        }
        return ground;
    }

    private static int tries(PracticeGround ground, String text, int task, int learner, boolean hinted) {
        Texts.read(ground, text);
        return ground.attempt(task, learner, hinted);
    }

    private static void cans(PracticeGround ground, int learner, int... due) {
        for (int skill = 0; skill < 8; skill++) {
            Check.same("can(" + learner + ", " + skill + ")", ground.can(learner, skill), due[skill]);
        }
    }

    /** "0 it PASSES; else 1 and the number of the first WORLD that it does not" */
    static void theFirstWorldThatFailsIsTold() {
        PracticeGround ground = new PracticeGround();
        ground.task(0, 0);
        for (int i = 0; i < 6; i++) {
            ground.world(0, i, 0, i);
        }
        Check.same("world 0", tries(ground, "r=a+1", 0, 0, false), 1);
        Check.same("world 1", tries(ground, "if 3<a{r=a}", 0, 0, false), 2);
        Check.same("world 4", tries(ground, "if a<4{r=a}", 0, 0, false), 5);
        Check.same("world 5", tries(ground, "if a<5{r=a}", 0, 0, false), 6);
        Check.same("none", tries(ground, "r=a", 0, 0, false), 0);
    }

    /** "NONE of a TASK without WORLDS" */
    static void withoutWorldsItIsNone() {
        Scene.FULL.leaves("attempt(5, 0)", "-1", ground -> ground.attempt(5, 0, false));
        Scene.FULL.leaves("attempt(5, 7)", "-1", ground -> ground.attempt(5, 7, true));
    }

    /** "a TASK with one WORLD at least" */
    static void oneWorldIsEnough() {
        PracticeGround ground = new PracticeGround();
        ground.task(0, 0);
        Check.same("none", tries(ground, "r=0", 0, 0, false), NONE);
        Check.no("passed", ground.passed(0, 0));
        ground.world(0, 0, 0, 0);
        Check.same("one", ground.attempt(0, 0, false), 0);
        Check.yes("passed", ground.passed(0, 0));
    }

    /** "PASSES a WORLD, if its RUN is done with that r": r alone is not enough. */
    static void aDivisionBy0WithTheDueRFails() {
        PracticeGround ground = zeros(1);
        Check.same("by 0", tries(ground, "r=1/0", 0, 0, false), 1);
        Check.no("passed", ground.passed(0, 0));
    }

    static void aDryRunWithTheDueRFails() {
        PracticeGround ground = zeros(1);
        Check.same("dry", tries(ground, "while 1{c=1}", 0, 0, false), 1);
        Check.no("passed", ground.passed(0, 0));
        ground.task(0, 0);
        ground.world(1, 500, 0, 500);
        ground.task(0, 0);
        ground.world(2, 499, 0, 499);
        Check.same("1001 steps", tries(ground, "while r<a{r=r+1}", 1, 0, false), 1);
        Check.same("999 steps", ground.attempt(2, 0, false), 0);
    }

    static void anotherRFails() {
        PracticeGround ground = new PracticeGround();
        ground.task(0, 0);
        ground.world(0, 0, 0, LEAST);
        Check.same("one below is the greatest", tries(ground, "r=32768*32768*2-1", 0, 0, false), 1);
        Check.same("one above", tries(ground, "r=32768*32768*2+1", 0, 0, false), 1);
        Check.same("least", tries(ground, "r=32768*32768*2", 0, 0, false), 0);
    }

    /** "IndexOutOfBoundsException: there is no such TASK" */
    static void noSuchTaskIsRefused() {
        for (int task : new int[] {-1, 10, LEAST, GREATEST}) {
            Scene.FULL.leaves("attempt(" + task + ", 0)", "throws.IndexOutOfBoundsException",
                    ground -> ground.attempt(task, 0, false));
        }
        Scene.BARE.leaves("attempt(0, 0)", "throws.IndexOutOfBoundsException", ground -> ground.attempt(0, 0, false));
        Scene.BEGUN.leaves("attempt(2, 0)", "throws.IndexOutOfBoundsException", ground -> ground.attempt(2, 0, false));
    }

    /** "LEARNERS 0 to 7" */
    static void noSuchLearnerIsRefused() {
        for (int learner : new int[] {-1, 8, LEAST, GREATEST}) {
            Scene.FULL.leaves("attempt(0, " + learner + ")", "throws.IndexOutOfBoundsException",
                    ground -> ground.attempt(0, learner, false));
            Scene.FULL.leaves("attempt(5, " + learner + ")", "throws.IndexOutOfBoundsException",
                    ground -> ground.attempt(5, learner, true));
        }
        PracticeGround ground = zeros(1);
        Check.same("0", tries(ground, "r=0", 0, 0, false), 0);
        Check.same("7", tries(ground, "r=0", 0, 7, false), 0);
    }

    /** "IllegalStateException: there is nothing on THE SLATE": also of a TASK without WORLDS. */
    static void withoutAProgramItIsRefused() {
        Scene.BEGUN.leaves("attempt(0, 0)", "throws.IllegalStateException", ground -> ground.attempt(0, 0, false));
        Scene.BEGUN.leaves("attempt(1, 7)", "throws.IllegalStateException", ground -> ground.attempt(1, 7, true));
    }

    /** "Of several exceptions the one told first is thrown" */
    static void noSuchIndexComesAheadOfNoProgram() {
        Scene.BEGUN.leaves("attempt(0, 8)", "throws.IndexOutOfBoundsException", ground -> ground.attempt(0, 8, false));
        Scene.BEGUN.leaves("attempt(0, -1)", "throws.IndexOutOfBoundsException", ground -> ground.attempt(0, -1, false));
        Scene.BEGUN.leaves("attempt(-1, 0)", "throws.IndexOutOfBoundsException", ground -> ground.attempt(-1, 0, false));
        Scene.BEGUN.leaves("attempt(2, 8)", "throws.IndexOutOfBoundsException", ground -> ground.attempt(2, 8, false));
    }

    /** "if it PASSES, .. CAN is more by 16" */
    static void aPassGives16() {
        PracticeGround ground = zeros(1);
        tries(ground, "r=a+b", 0, 6, false);
        cans(ground, 6, 16, 16, 0, 0, 0, 0, 0, 0);
    }

    /** "(hinted: by 4)" */
    static void aHintedPassGives4() {
        PracticeGround ground = zeros(1);
        tries(ground, "r=a+b", 0, 6, true);
        cans(ground, 6, 4, 4, 0, 0, 0, 0, 0, 0);
    }

    static void everySkillHasItsPlace() {
        PracticeGround ground = zeros(1);
        tries(ground, "c=1;while c{c=0;while d{d=0};if 1<2{r=(1+1)*0/1}}", 0, 0, false);
        cans(ground, 0, 16, 16, 16, 16, 16, 16, 16, 16);
        PracticeGround other = zeros(1);
        tries(other, "while c{c=0}", 0, 0, true);
        cans(other, 0, 0, 0, 0, 0, 0, 0, 4, 0);
    }

    /** "64 at most": 60 and 16. */
    static void canGoesTo64AtMost() {
        PracticeGround ground = zeros(9);
        Texts.read(ground, "r=0");
        int[] due = {16, 32, 48, 52, 56, 60, 64, 64, 64};
        for (int task = 0; task < 9; task++) {
            ground.attempt(task, 0, task >= 3 && task <= 5 || task == 8);
            Check.same("can behind task " + task, ground.can(0, 0), due[task]);
        }
    }

    /** Just 64: by 16 from 48, and by 4 from 60. */
    static void canComesToJust64() {
        PracticeGround ground = zeros(8);
        Texts.read(ground, "r=0");
        for (int task = 0; task < 4; task++) {
            ground.attempt(task, 0, false);
        }
        Check.same("by 16", ground.can(0, 0), 64);
        for (int task = 0; task < 7; task++) {
            ground.attempt(task, 1, task >= 3);
        }
        Check.same("by 4", ground.can(1, 0), 64);
        ground.attempt(7, 1, true);
        Check.same("no more", ground.can(1, 0), 64);
    }

    /** "a TASK that a LEARNER PASSED before changes no CAN any more" */
    static void aTaskPassedBeforeChangesNoCan() {
        PracticeGround ground = zeros(1);
        tries(ground, "r=0", 0, 0, false);
        tries(ground, "r=0", 0, 0, false);
        tries(ground, "r=a*b", 0, 0, false);
        tries(ground, "r=a+b", 0, 0, true);
        cans(ground, 0, 16, 0, 0, 0, 0, 0, 0, 0);
    }

    static void oneThatWasPassedHintedTooChangesNoCan() {
        PracticeGround ground = zeros(1);
        tries(ground, "r=0", 0, 0, true);
        tries(ground, "r=0", 0, 0, false);
        cans(ground, 0, 4, 0, 0, 0, 0, 0, 0, 0);
    }

    static void oneThatWasTriedInVainBeforeDoes() {
        PracticeGround ground = zeros(1);
        tries(ground, "r=1", 0, 0, false);
        cans(ground, 0, 0, 0, 0, 0, 0, 0, 0, 0);
        tries(ground, "r=0", 0, 0, false);
        cans(ground, 0, 16, 0, 0, 0, 0, 0, 0, 0);
    }

    static void oneThatAnotherPassedDoes() {
        PracticeGround ground = zeros(2);
        tries(ground, "r=0", 0, 0, false);
        tries(ground, "r=0", 0, 1, false);
        cans(ground, 1, 16, 0, 0, 0, 0, 0, 0, 0);
        tries(ground, "r=0", 1, 0, true);
        cans(ground, 0, 20, 0, 0, 0, 0, 0, 0, 0);
        cans(ground, 2, 0, 0, 0, 0, 0, 0, 0, 0);
    }

    /** "of each SKILL that some of its RUNS in the WORLDS showed": the first's, the last's, of many just once. */
    static void aSkillOfSomeRunCountsOnce() {
        PracticeGround ground = new PracticeGround();
        ground.task(0, 0);
        for (int a = 0; a < 6; a++) {
            ground.world(0, a, 0, 0);
        }
        Check.same("passes", tries(ground, "if a{c=1}else{c=1+1};if 4<a{c=1*2}", 0, 0, false), 0);
        cans(ground, 0, 16, 16, 16, 0, 16, 16, 0, 0);
    }

    /** Not what an earlier RUN or TRY showed. */
    static void skillsOfEarlierRunsDoNotCount() {
        PracticeGround ground = zeros(1);
        tries(ground, "r=1*2", 0, 0, false);
        tries(ground, "r=0", 0, 0, false);
        cans(ground, 0, 16, 0, 0, 0, 0, 0, 0, 0);
        PracticeGround other = zeros(1);
        Texts.read(other, "if a<1{r=a}");
        other.run(0, 0, 0);
        tries(other, "r=0+0", 0, 0, true);
        cans(other, 0, 4, 4, 0, 0, 0, 0, 0, 0);
    }

    /** What a TASK NEEDS and SHOWS is not asked of a TRY. */
    static void needsAreNotAskedOfATry() {
        PracticeGround ground = new PracticeGround();
        ground.task(255, 128);
        ground.world(0, 0, 0, 0);
        Check.same("passes", tries(ground, "r=0", 0, 0, false), 0);
        cans(ground, 0, 16, 0, 0, 0, 0, 0, 0, 0);
    }

    static void aFailedTryIsCountedAndChangesNothingElse() {
        Scene.FULL.leavesBut("count 3", "attempt(0, 5)", "2", ground -> ground.attempt(0, 5, false));
        Scene.FULL.leavesBut("count 3", "attempt(0, 0)", "2", ground -> ground.attempt(0, 0, true));
    }

    /** "PASSED stays" */
    static void passedStaysThoughATryFailsLater() {
        PracticeGround ground = zeros(1);
        tries(ground, "r=0", 0, 0, false);
        Check.same("fails", tries(ground, "r=1", 0, 0, false), 1);
        Check.yes("passed", ground.passed(0, 0));
        Check.same("learners", ground.look(0, 4), 1);
        Check.same("can", ground.can(0, 0), 16);
    }

    /** "RIGHT WAYS of a TASK (at most 10, those that came first)": the 10th is kept. */
    static void tenWaysAreKept() {
        PracticeGround ground = zeros(1);
        for (int i = 0; i < 10; i++) {
            tries(ground, ZEROS[i], 0, 0, false);
            Check.same("ways", ground.look(0, 3), i + 1);
        }
        for (int i = 0; i < 10; i++) {
            Texts.read(ground, ZEROS[i]);
            Check.same("the number of " + ZEROS[i], ground.hint(0, 1), i);
            Check.same("changes", ground.hint(0, 0), 0);
        }
    }

    static void an11thWayIsNot() {
        PracticeGround ground = zeros(1);
        for (String text : ZEROS) {
            Check.same("passes", tries(ground, text, 0, 0, false), 0);
        }
        Check.same("ways", ground.look(0, 3), 10);
        Texts.read(ground, ZEROS[0]);
        Check.same("the first stays", ground.hint(0, 0), 0);
        Texts.read(ground, ZEROS[9]);
        Check.same("the 10th stays", ground.hint(0, 1), 9);
        Texts.read(ground, ZEROS[10]);
        Check.same("the 11th is none", ground.hint(0, 0), 2);
    }

    /** With 10 RIGHT WAYS a pass is still a pass. */
    static void an11thPassesAllTheSame() {
        PracticeGround ground = zeros(1);
        for (int i = 0; i < 10; i++) {
            tries(ground, ZEROS[i], 0, 0, false);
        }
        tries(ground, ZEROS[10], 0, 1, false);
        tries(ground, ZEROS[10], 0, 2, false);
        Check.yes("passed", ground.passed(1, 0));
        Check.same("can", ground.can(1, 2), 16);
        Check.yes("alike", ground.alike(0, 1, 2, 5));
        Check.same("passes", ground.count(4), 12);
    }

    /** "with unlike SHAPES" */
    static void aWayOfAShapeThatIsThereIsNotKept() {
        PracticeGround ground = zeros(1);
        tries(ground, "c=a;r=c", 0, 0, false);
        tries(ground, "c=a;r=c", 0, 1, false);
        tries(ground, "d=a;r=d", 0, 2, false);
        tries(ground, " c = a ;  r=c", 0, 3, true);
        Check.same("ways", ground.look(0, 3), 1);
        Texts.read(ground, "d=a;r=d");
        Check.same("the first is it", ground.hint(0, 0), 2);
    }

    /** "a, b, r stay themselves" */
    static void aBAndRStayThemselves() {
        PracticeGround ground = zeros(1);
        String[] texts = {"c=a;r=c", "c=b;r=c", "c=r;r=c", "a=a;r=a", "b=a;r=b", "r=a;r=r"};
        for (int i = 0; i < texts.length; i++) {
            tries(ground, texts[i], 0, 0, false);
            Check.same("ways with " + texts[i], ground.look(0, 3), i + 1);
        }
    }

    /** "c, d, by which of them comes first" */
    static void cAndDAreAlikeByWhichComesFirst() {
        PracticeGround ground = zeros(1);
        String[] texts = {"c=d;r=c", "d=c;r=d", "c=d;r=d", "d=c;r=c", "c=c;r=d", "d=d;r=c", "c=c;r=c", "d=d;r=d"};
        for (int i = 0; i < texts.length; i++) {
            tries(ground, texts[i], 0, 0, false);
            Check.same("ways with " + texts[i], ground.look(0, 3), i / 2 + 1);
        }
    }

    /** The first TOKEN is of the SHAPE too, be it all that differs or the only c or d. */
    static void theFirstTokenIsOfTheShape() {
        PracticeGround ground = zeros(1);
        String[] texts = {"a=0;r=0", "b=0;r=0", "c=0;r=0", "r=0;r=0", "if a{r=0}", "while a{r=0}"};
        for (int i = 0; i < texts.length; i++) {
            tries(ground, texts[i], 0, 0, false);
            Check.same("ways with " + texts[i], ground.look(0, 3), i + 1);
        }
        tries(ground, "d=0;r=0", 0, 0, false);
        Check.same("ways with d for c", ground.look(0, 3), texts.length);
    }

    static void numbersAndSignsAreOfTheShape() {
        PracticeGround ground = zeros(1);
        String[] texts = {"r=0*1", "r=0*2", "r=0/1", "r=(0*1)", "r=0*1;r=0"};
        for (int i = 0; i < texts.length; i++) {
            tries(ground, texts[i], 0, 0, false);
            Check.same("ways with " + texts[i], ground.look(0, 3), i + 1);
        }
    }

    static void everyTaskHasItsOwnWays() {
        PracticeGround ground = zeros(2);
        tries(ground, "r=0", 0, 0, false);
        tries(ground, "r=0", 1, 0, false);
        Check.same("ways of 0", ground.look(0, 3), 1);
        Check.same("ways of 1", ground.look(1, 3), 1);
    }

    /** "programs that PASSED as they were tried": by one who PASSED before, too; none that failed. */
    static void onlyWhatPassedIsAWay() {
        PracticeGround ground = zeros(1);
        tries(ground, "r=1", 0, 0, false);
        Check.same("failed", ground.look(0, 3), 0);
        tries(ground, "r=0", 0, 0, false);
        tries(ground, "r=a", 0, 0, false);
        Check.same("passed before", ground.look(0, 3), 2);
    }

    /** "as they were tried": a WORLD that comes later takes no way. */
    static void aWayStaysThoughAWorldComesLater() {
        PracticeGround ground = zeros(1);
        tries(ground, "r=a", 0, 0, false);
        ground.world(0, 1, 0, 5);
        Check.same("fails now", ground.attempt(0, 1, false), 2);
        Check.same("ways", ground.look(0, 3), 1);
        Check.same("hint", ground.hint(0, 0), 0);
    }
}
