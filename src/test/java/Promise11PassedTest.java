/** Promise 11: passed. Each test is of one boundary that the document names. */
public final class Promise11PassedTest {
    private static final int[] NO_INDEX = {-1, 10, 11, Integer.MIN_VALUE, Integer.MAX_VALUE};

    public static void main(String[] args) {
        Check.all(Promise11PassedTest.class);
    }

    /** "LEARNERS 0 to 7" */
    static void noSuchLearnerIsRefused() {
        for (int learner : new int[] {-1, 8, 9, Integer.MIN_VALUE, Integer.MAX_VALUE}) {
            Scene.FULL.leaves("passed(" + learner + ", 0)", "throws.IndexOutOfBoundsException",
                    ground -> ground.passed(learner, 0) ? 1 : 0);
        }
    }

    /** "there is no such TASK" */
    static void noSuchTaskIsRefused() {
        for (int task : NO_INDEX) {
            Scene.FULL.leaves("passed(0, " + task + ")", "throws.IndexOutOfBoundsException",
                    ground -> ground.passed(0, task) ? 1 : 0);
        }
        Scene.BARE.leaves("passed(0, 0)", "throws.IndexOutOfBoundsException", ground -> ground.passed(0, 0) ? 1 : 0);
        Scene.BEGUN.leaves("passed(0, 2)", "throws.IndexOutOfBoundsException", ground -> ground.passed(0, 2) ? 1 : 0);
    }

    /** The LEARNER comes first: there is a TASK 9, but no LEARNER 9. */
    static void learnerComesAheadOfTask() {
        Scene.FULL.leaves("passed(7, 9)", "0", ground -> ground.passed(7, 9) ? 1 : 0);
        Scene.FULL.leaves("passed(9, 7)", "throws.IndexOutOfBoundsException", ground -> ground.passed(9, 7) ? 1 : 0);
    }

    static void onlyTheOneWhoPassedDid() {
        PracticeGround ground = new PracticeGround();
        for (int task = 0; task < 10; task++) {
            ground.task(0, 0);
            ground.world(task, 0, 0, 0);
        }
        Texts.read(ground, "r=0");
        ground.attempt(9, 7, false);
        ground.attempt(2, 3, true);
        for (int learner = 0; learner < 8; learner++) {
            for (int task = 0; task < 10; task++) {
                boolean due = learner == 7 && task == 9 || learner == 3 && task == 2;
                Check.same("passed(" + learner + ", " + task + ")", ground.passed(learner, task) ? 1 : 0, due ? 1 : 0);
            }
        }
    }

    static void aTryThatFailedInItsLastWorldIsNoPass() {
        PracticeGround ground = new PracticeGround();
        ground.task(0, 0);
        for (int i = 0; i < 6; i++) {
            ground.world(0, i, 0, i == 5 ? 1 : 0);
        }
        Texts.read(ground, "r=0");
        Check.same("attempt", ground.attempt(0, 0, false), 6);
        Check.no("passed", ground.passed(0, 0));
    }

    static void aTryWithoutWorldsIsNoPass() {
        PracticeGround ground = new PracticeGround();
        ground.task(0, 0);
        Texts.read(ground, "r=0");
        ground.attempt(0, 0, false);
        Check.no("passed", ground.passed(0, 0));
    }

    /** "PASSED stays", and a WORLD that comes later leaves it. */
    static void itStays() {
        PracticeGround ground = new PracticeGround();
        ground.task(0, 0);
        ground.world(0, 0, 0, 0);
        Texts.read(ground, "r=0");
        ground.attempt(0, 0, false);
        ground.world(0, 0, 0, 1);
        Check.yes("behind a world", ground.passed(0, 0));
        ground.attempt(0, 0, false);
        Check.yes("behind a try that failed", ground.passed(0, 0));
        Texts.read(ground, "r=1");
        Check.yes("behind a read", ground.passed(0, 0));
    }

    static void askingChangesNothing() {
        Scene.FULL.leaves("passed(0, 0)", "1", ground -> ground.passed(0, 0) ? 1 : 0);
        Scene.FULL.leaves("passed(5, 0)", "0", ground -> ground.passed(5, 0) ? 1 : 0);
        Scene.BEGUN.leaves("passed(7, 1)", "0", ground -> ground.passed(7, 1) ? 1 : 0);
    }
}
