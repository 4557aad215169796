/** Promise 13: wish. Each test is of one boundary that the document names. */
public final class Promise13WishTest {
    private static final int NONE = PracticeGround.NONE;
    private static final int[] NO_INDEX = {-1, 8, 32, Integer.MIN_VALUE, Integer.MAX_VALUE};

    public static void main(String[] args) {
        Check.all(Promise13WishTest.class);
    }

    private static PracticeGround groundOf(int... needsAndShows) {
        PracticeGround ground = new PracticeGround();
        for (int i = 0; i + 1 < needsAndShows.length; i += 2) {
            ground.task(needsAndShows[i], needsAndShows[i + 1]);
        }
        return ground;
    }

    /** A LEARNER 0 who CAN SKILL 0 by so many passes without and with a hint. */
    private static void teach(PracticeGround ground, int alone, int hinted) {
        Texts.read(ground, "r=0");
        for (int i = 0; i < alone + hinted; i++) {
            int task = ground.task(0, 0);
            ground.world(task, 0, 0, 0);
            ground.attempt(task, 0, i >= alone);
        }
    }

    /** "0 if it is there at once": CAN of 32. */
    static void aSkillOf32IsThereAtOnce() {
        PracticeGround ground = groundOf(0, 1);
        teach(ground, 2, 0);
        Check.same("can", ground.can(0, 0), 32);
        Check.same("wish", ground.wish(0, 0), 0);
        Check.same("of another", ground.wish(1, 0), 1);
    }

    /** "by 32 at least": 28 is the most below it. */
    static void aSkillOf28IsNot() {
        PracticeGround ground = groundOf(0, 1);
        teach(ground, 1, 3);
        Check.same("can", ground.can(0, 0), 28);
        Check.same("wish", ground.wish(0, 0), 1);
    }

    /** Of every SKILL: those that a program shows are there at once, the others can never be. */
    static void everySkillMayBeThereAtOnce() {
        String[] texts = {"r=0", "if 0+0{r=0}", "if 0*0{r=0}", "if 0/1{r=0}", "if 1<0{r=0}", "if 0{r=0}", "while 0{r=0}",
            "c=1;while c{c=0;while 0{r=0}}"};
        int[] shown = {1, 2 | 32, 4 | 32, 8 | 32, 16 | 32, 32, 64, 1 | 64 | 128};
        for (int i = 0; i < 8; i++) {
            PracticeGround ground = groundOf(0, 0, 0, 0);
            Texts.read(ground, texts[i]);
            for (int task = 0; task < 2; task++) {
                ground.world(task, 0, 0, 0);
                ground.attempt(task, 0, false);
            }
            for (int skill = 0; skill < 8; skill++) {
                int due = (shown[i] >> skill & 1) == 1 ? 0 : NONE;
                Check.same(texts[i] + " for skill " + skill, ground.wish(0, skill), due);
            }
        }
    }

    /** "none, if it can never be": without TASKS. */
    static void withoutTasksItIsNone() {
        for (int skill = 0; skill < 8; skill++) {
            Check.same("wish", groundOf().wish(0, skill), NONE);
        }
    }

    static void aSkillThatNoTaskShowsIsNone() {
        Check.same("wish", groundOf(0, 254, 0, 2).wish(0, 0), NONE);
    }

    static void aSkillBehindANeedThatCanNeverBeIsNone() {
        Check.same("wish", groundOf(0, 1, 3, 4).wish(0, 2), NONE);
        Check.same("one that needs itself", groundOf(4, 4).wish(0, 2), NONE);
        Check.same("two that need one another", groundOf(2, 4, 4, 2).wish(0, 2), NONE);
    }

    /** "if each is taken only when all its NEEDS are there" */
    static void allNeedsMustBeThere() {
        Check.same("one of two", groundOf(3, 4, 0, 1).wish(0, 2), NONE);
        Check.same("both", groundOf(3, 4, 0, 1, 0, 2).wish(0, 2), 3);
        Check.same("both by one", groundOf(3, 4, 0, 3).wish(0, 2), 2);
    }

    /** "those that the LEARNER CAN by 32 at least, and what the TASKS before SHOW" */
    static void whatTheLearnerCanIsThere() {
        PracticeGround ground = groundOf(1, 2, 3, 4);
        Check.same("not yet", ground.wish(0, 2), NONE);
        teach(ground, 2, 0);
        Check.same("wish(0, 1)", ground.wish(0, 1), 1);
        Check.same("wish(0, 2)", ground.wish(0, 2), 2);
        Check.same("of another", ground.wish(1, 2), NONE);
    }

    /** What is SHOWN before stays there for all that come later, not for the next alone. */
    static void whatWasShownBeforeStays() {
        Check.same("wish", groundOf(0, 1, 1, 2, 3, 4, 7, 8).wish(0, 3), 4);
    }

    /** "one after the other": the order of their numbers does not count. */
    static void laterTasksMayBeTakenEarlier() {
        Check.same("wish", groundOf(4, 8, 2, 4, 1, 2, 0, 1).wish(0, 3), 4);
    }

    /** "the fewest TASKS": not the first that are found, nor the richest. */
    static void theFewestCount() {
        Check.same("a longer way first", groundOf(0, 1, 1, 2, 2, 128, 0, 128).wish(0, 7), 1);
        Check.same("a richer one first", groundOf(0, 126, 126, 1, 1, 128, 0, 2, 2, 128).wish(0, 7), 2);
        Check.same("two ahead or three", groundOf(7, 128, 0, 1, 0, 2, 0, 4, 1, 6).wish(0, 7), 3);
    }

    /** The most: 8 TASKS, each with a SKILL of its own. */
    static void eightIsTheMost() {
        PracticeGround ground = groundOf(127, 128, 63, 64, 31, 32, 15, 16, 7, 8, 3, 4, 1, 2, 0, 1, 0, 0, 255, 255);
        for (int skill = 0; skill < 8; skill++) {
            Check.same("wish(0, " + skill + ")", ground.wish(0, skill), skill + 1);
        }
    }

    static void tasksThatShowNothingAreOfNoUse() {
        Check.same("wish", groundOf(0, 0, 0, 0, 1, 2).wish(0, 1), NONE);
    }

    /** A WISH asks neither for WORLDS nor whether a TASK was PASSED. */
    static void passedTasksCountToo() {
        PracticeGround ground = groundOf(0, 2);
        ground.world(0, 0, 0, 0);
        teach(ground, 2, 0);
        ground.attempt(0, 0, false);
        Check.yes("passed", ground.passed(0, 0));
        Check.same("wish", ground.wish(0, 1), 1);
    }

    static void everySkillMayBeThere() {
        PracticeGround ground = groundOf(0, 255);
        for (int skill = 0; skill < 8; skill++) {
            Check.same("wish(7, " + skill + ")", ground.wish(7, skill), 1);
        }
    }

    /** "IndexOutOfBoundsException: there is no such .. LEARNER" */
    static void noSuchLearnerIsRefused() {
        for (int learner : NO_INDEX) {
            Scene.BARE.leaves("wish(" + learner + ", 0)", "throws.IndexOutOfBoundsException",
                    ground -> ground.wish(learner, 0));
            Scene.FULL.leaves("wish(" + learner + ", 7)", "throws.IndexOutOfBoundsException",
                    ground -> ground.wish(learner, 7));
        }
    }

    /** "IndexOutOfBoundsException: there is no such .. SKILL" */
    static void noSuchSkillIsRefused() {
        for (int skill : NO_INDEX) {
            Scene.BARE.leaves("wish(0, " + skill + ")", "throws.IndexOutOfBoundsException",
                    ground -> ground.wish(0, skill));
            Scene.FULL.leaves("wish(7, " + skill + ")", "throws.IndexOutOfBoundsException",
                    ground -> ground.wish(7, skill));
            Scene.FULL.leaves("wish(" + skill + ", " + skill + ")", "throws.IndexOutOfBoundsException",
                    ground -> ground.wish(skill, skill));
        }
    }

    static void askingChangesNothing() {
        Scene.BARE.leaves("wish(0, 0)", "-1", ground -> ground.wish(0, 0));
        Scene.BEGUN.leaves("wish(0, 2)", "2", ground -> ground.wish(0, 2));
        Scene.FULL.leaves("wish(0, 0)", "0", ground -> ground.wish(0, 0));
    }
}
