/** Promise 10: can. Each test is of one boundary that the document names. */
public final class Promise10CanTest {
    private static final int[] NO_INDEX = {-1, 8, 9, Integer.MIN_VALUE, Integer.MAX_VALUE};

    public static void main(String[] args) {
        Check.all(Promise10CanTest.class);
    }

    /** "LEARNERS 0 to 7" */
    static void noSuchLearnerIsRefused() {
        for (int learner : NO_INDEX) {
            Scene.BARE.leaves("can(" + learner + ", 0)", "throws.IndexOutOfBoundsException",
                    ground -> ground.can(learner, 0));
            Scene.FULL.leaves("can(" + learner + ", 7)", "throws.IndexOutOfBoundsException",
                    ground -> ground.can(learner, 7));
        }
    }

    /** "SKILL (0 to 7 ..)" */
    static void noSuchSkillIsRefused() {
        for (int skill : NO_INDEX) {
            Scene.BARE.leaves("can(0, " + skill + ")", "throws.IndexOutOfBoundsException", ground -> ground.can(0, skill));
            Scene.FULL.leaves("can(7, " + skill + ")", "throws.IndexOutOfBoundsException", ground -> ground.can(7, skill));
            Scene.FULL.leaves("can(" + skill + ", " + skill + ")", "throws.IndexOutOfBoundsException",
                    ground -> ground.can(skill, skill));
        }
    }

    static void theFirstAndTheLastAreThere() {
        PracticeGround ground = new PracticeGround();
        for (int learner : new int[] {0, 7}) {
            for (int skill : new int[] {0, 7}) {
                Check.same("can(" + learner + ", " + skill + ")", ground.can(learner, skill), 0);
            }
        }
    }

    /** "CAN, 0 to 64": the least and the greatest. */
    static void itGoesFrom0To64() {
        PracticeGround ground = new PracticeGround();
        Texts.read(ground, "while a{c=0}");
        for (int task = 0; task < 10; task++) {
            Check.same("can", ground.can(7, 6), Math.min(64, 16 * task));
            ground.task(0, 0);
            ground.world(task, 0, 0, 0);
            ground.attempt(task, 7, false);
        }
        Check.same("the greatest", ground.can(7, 6), 64);
        Check.same("of another skill", ground.can(7, 5), 0);
        Check.same("of another skill", ground.can(7, 7), 0);
        Check.same("of another learner", ground.can(6, 6), 0);
    }

    /** The SKILL and the LEARNER are not taken for one another. */
    static void learnerComesAheadOfSkill() {
        PracticeGround ground = new PracticeGround();
        Texts.read(ground, "r=1+2");
        ground.task(0, 0);
        ground.world(0, 0, 0, 3);
        ground.attempt(0, 3, false);
        Check.same("can(3, 1)", ground.can(3, 1), 16);
        Check.same("can(1, 3)", ground.can(1, 3), 0);
    }

    static void askingChangesNothing() {
        Scene.FULL.leaves("can(0, 0)", "48", ground -> ground.can(0, 0));
        Scene.BEGUN.leaves("can(0, 0)", "0", ground -> ground.can(0, 0));
    }
}
