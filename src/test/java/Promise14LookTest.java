/** Promise 14: look. Each test is of one boundary that the document names. */
public final class Promise14LookTest {
    private static final int[] NO_WHAT = {-1, 5, 6, Integer.MIN_VALUE, Integer.MAX_VALUE};

    public static void main(String[] args) {
        Check.all(Promise14LookTest.class);
    }

    private static void looks(PracticeGround ground, int task, int... due) {
        for (int what = 0; what <= 4; what++) {
            Check.same("look(" + task + ", " + what + ")", ground.look(task, what), due[what]);
        }
    }

    static void aNewTaskHasItsSetsAlone() {
        PracticeGround ground = new PracticeGround();
        ground.task(255, 0);
        ground.task(0, 255);
        looks(ground, 0, 255, 0, 0, 0, 0);
        looks(ground, 1, 0, 255, 0, 0, 0);
    }

    /** The most of each: 6 WORLDS, 10 RIGHT WAYS, 8 LEARNERS. */
    static void aFullTaskHasTheMostOfEach() {
        PracticeGround ground = new PracticeGround();
        ground.task(3, 5);
        ground.task(1, 2);
        for (int i = 0; i < 8; i++) {
            ground.world(0, 0, 0, 0);
        }
        for (int i = 0; i < 12; i++) {
            Texts.read(ground, "r=0*" + i);
            ground.attempt(0, i % 8, false);
        }
        looks(ground, 0, 3, 5, 6, 10, 8);
        looks(ground, 1, 1, 2, 0, 0, 0);
    }

    /** "4 LEARNERS who PASSED it": each once, hinted or not. */
    static void everyLearnerCountsOnce() {
        PracticeGround ground = new PracticeGround();
        ground.task(0, 0);
        ground.world(0, 0, 0, 0);
        Texts.read(ground, "r=1");
        ground.attempt(0, 0, false);
        looks(ground, 0, 0, 0, 1, 0, 0);
        Texts.read(ground, "r=0");
        for (int learner = 0; learner < 8; learner++) {
            ground.attempt(0, learner, learner % 2 == 0);
            ground.attempt(0, learner, false);
            looks(ground, 0, 0, 0, 1, 1, learner + 1);
        }
    }

    /** "IndexOutOfBoundsException: there is no such TASK" */
    static void noSuchTaskIsRefused() {
        for (int task : new int[] {-1, 10, Integer.MIN_VALUE, Integer.MAX_VALUE}) {
            Scene.FULL.leaves("look(" + task + ", 0)", "throws.IndexOutOfBoundsException", ground -> ground.look(task, 0));
        }
        Scene.BARE.leaves("look(0, 0)", "throws.IndexOutOfBoundsException", ground -> ground.look(0, 0));
        Scene.BEGUN.leaves("look(2, 4)", "throws.IndexOutOfBoundsException", ground -> ground.look(2, 4));
    }

    /** "NoSuchElementException: another what" */
    static void anotherWhatIsRefused() {
        for (int what : NO_WHAT) {
            Scene.BEGUN.leaves("look(0, " + what + ")", "throws.NoSuchElementException", ground -> ground.look(0, what));
            Scene.FULL.leaves("look(9, " + what + ")", "throws.NoSuchElementException", ground -> ground.look(9, what));
        }
    }

    /** "Of several exceptions the one told first is thrown" */
    static void noSuchTaskComesAheadOfAnotherWhat() {
        for (int what : NO_WHAT) {
            Scene.BARE.leaves("look(0, " + what + ")", "throws.IndexOutOfBoundsException",
                    ground -> ground.look(0, what));
            Scene.BEGUN.leaves("look(2, " + what + ")", "throws.IndexOutOfBoundsException",
                    ground -> ground.look(2, what));
            Scene.FULL.leaves("look(-1, " + what + ")", "throws.IndexOutOfBoundsException",
                    ground -> ground.look(-1, what));
        }
    }

    static void askingChangesNothing() {
        Scene.FULL.leaves("look(0, 2)", "6", ground -> ground.look(0, 2));
        Scene.FULL.leaves("look(0, 3)", "10", ground -> ground.look(0, 3));
        Scene.FULL.leaves("look(0, 4)", "4", ground -> ground.look(0, 4));
    }
}
