/** Promise 7: task. Each test is of one boundary that the document names. */
public final class Promise07TaskTest {
    private static final int[] NO_SETS = {-1, 256, 257, 1 << 16, Integer.MIN_VALUE, Integer.MAX_VALUE};

    public static void main(String[] args) {
        Check.all(Promise07TaskTest.class);
    }

    /** "TASKS (at most 10, numbered from 0 on)" */
    static void tenTasksAreNumberedFrom0On() {
        PracticeGround ground = new PracticeGround();
        for (int i = 0; i < 10; i++) {
            Check.same("task", ground.task(0, 0), i);
            Check.same("count(0)", ground.count(0), i + 1);
        }
    }

    /** "UnsupportedOperationException: there are 10" */
    static void an11thIsRefused() {
        Scene.FULL.leaves("task(0, 0)", "throws.UnsupportedOperationException", ground -> ground.task(0, 0));
        Scene.FULL.leaves("task(255, 255)", "throws.UnsupportedOperationException", ground -> ground.task(255, 255));
    }

    /** "sets of SKILLS, 0 to 255" */
    static void setsGoFrom0To255() {
        PracticeGround ground = new PracticeGround();
        int[][] sets = {{0, 0}, {255, 255}, {0, 255}, {255, 0}, {1, 128}};
        for (int i = 0; i < sets.length; i++) {
            Check.same("task", ground.task(sets[i][0], sets[i][1]), i);
            Check.same("needs", ground.look(i, 0), sets[i][0]);
            Check.same("shows", ground.look(i, 1), sets[i][1]);
        }
    }

    /** "IllegalArgumentException: sets are none": NEEDS. */
    static void needsThatAreNoneAreRefused() {
        for (int set : NO_SETS) {
            Scene.BARE.leaves("task(" + set + ", 0)", "throws.IllegalArgumentException", ground -> ground.task(set, 0));
            Scene.BEGUN.leaves("task(" + set + ", 0)", "throws.IllegalArgumentException", ground -> ground.task(set, 0));
        }
    }

    /** "IllegalArgumentException: sets are none": SHOWS. */
    static void showsThatAreNoneAreRefused() {
        for (int set : NO_SETS) {
            Scene.BARE.leaves("task(0, " + set + ")", "throws.IllegalArgumentException", ground -> ground.task(0, set));
            Scene.BEGUN.leaves("task(0, " + set + ")", "throws.IllegalArgumentException", ground -> ground.task(0, set));
        }
    }

    /** "Of several exceptions the one told first is thrown" */
    static void setsThatAreNoneComeAheadOfAnEleventh() {
        for (int set : NO_SETS) {
            Scene.FULL.leaves("task(0, " + set + ")", "throws.IllegalArgumentException", ground -> ground.task(0, set));
            Scene.FULL.leaves("task(" + set + ", 0)", "throws.IllegalArgumentException", ground -> ground.task(set, 0));
            Scene.FULL.leaves("both " + set, "throws.IllegalArgumentException", ground -> ground.task(set, set));
        }
    }

    static void aRefusedOneTakesNoNumber() {
        PracticeGround ground = new PracticeGround();
        Check.same("task", ground.task(0, 0), 0);
        Check.refused("task", IllegalArgumentException.class, () -> ground.task(0, 256));
        Check.same("the next number", ground.task(0, 0), 1);
    }

    static void aNewOneHasNothing() {
        PracticeGround ground = Scene.BEGUN.made();
        Check.same("task", ground.task(1, 2), 2);
        for (int what = 2; what <= 4; what++) {
            Check.same("look(2, " + what + ")", ground.look(2, what), 0);
        }
        for (int learner = 0; learner < 8; learner++) {
            Check.no("passed", ground.passed(learner, 2));
        }
        Check.same("its first world", ground.world(2, 0, 0, 0), 0);
    }
}
