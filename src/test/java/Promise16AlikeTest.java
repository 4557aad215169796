/** Promise 16: alike. Each test is of one boundary that the document names. */
public final class Promise16AlikeTest {
    private static final int[] NO_LEARNER = {-1, 8, 9, Integer.MIN_VALUE, Integer.MAX_VALUE};

    public static void main(String[] args) {
        Check.all(Promise16AlikeTest.class);
    }

    /** A TASK that LEARNER i PASSED with text i, as r is 0 for 0 and 0. */
    private static PracticeGround groundOf(String... texts) {
        PracticeGround ground = new PracticeGround();
        ground.task(0, 0);
        ground.task(0, 0);
        ground.world(0, 0, 0, 0);
        ground.world(1, 0, 0, 0);
        for (int i = 0; i < texts.length; i++) {
            Texts.read(ground, texts[i]);
            Check.same("\"" + texts[i] + "\" passes", ground.attempt(0, i, i % 2 == 1), 0);
        }
        return ground;
    }

    private static void alike(String one, String other, boolean due) {
        PracticeGround ground = groundOf(one, other);
        Check.same(one + " and " + other, ground.alike(0, 0, 1, 0) ? 1 : 0, due ? 1 : 0);
        Check.same(other + " and " + one, ground.alike(0, 1, 0, 0) ? 1 : 0, due ? 1 : 0);
    }

    /** "of at least so many TOKENS": just so many. */
    static void asManyTokensAreEnough() {
        PracticeGround ground = groundOf("r=a+b", "r=a+b");
        Check.yes("5", ground.alike(0, 0, 1, 5));
        Check.yes("4", ground.alike(0, 0, 1, 4));
    }

    static void oneMoreIsTooMany() {
        PracticeGround ground = groundOf("r=a+b", "r=a+b");
        Check.no("6", ground.alike(0, 0, 1, 6));
        Check.no("greatest", ground.alike(0, 0, 1, Integer.MAX_VALUE));
    }

    static void noneOrFewerThanNoneAreEnough() {
        PracticeGround ground = groundOf("r=a+b", "r=a+b");
        Check.yes("0", ground.alike(0, 0, 1, 0));
        Check.yes("-1", ground.alike(0, 0, 1, -1));
        Check.yes("least", ground.alike(0, 0, 1, Integer.MIN_VALUE));
    }

    static void theLongestMayBeAlike() {
        String most = "r=" + "0+".repeat(58) + "0";
        PracticeGround ground = groundOf(most, most, "r=" + "0+".repeat(58) + "a");
        Check.yes("119", ground.alike(0, 0, 1, 119));
        Check.no("120", ground.alike(0, 0, 1, 120));
        Check.no("another last token", ground.alike(0, 0, 2, 0));
    }

    /** "(false of one LEARNER)" */
    static void oneLearnerIsNotAlike() {
        PracticeGround ground = groundOf("r=0", "r=0");
        for (int learner = 0; learner < 8; learner++) {
            Check.no("alike(0, " + learner + ", " + learner + ")", ground.alike(0, learner, learner, 0));
        }
    }

    /** "if both PASSED it" */
    static void bothMustHavePassed() {
        PracticeGround ground = groundOf("r=0");
        Check.no("the second did not", ground.alike(0, 0, 1, 0));
        Check.no("the first did not", ground.alike(0, 1, 0, 0));
        Check.no("neither did", ground.alike(0, 1, 2, 0));
        Texts.read(ground, "r=1");
        ground.attempt(0, 1, false);
        Check.no("tried in vain", ground.alike(0, 0, 1, 0));
        Texts.read(ground, "r=0");
        ground.attempt(1, 1, false);
        Check.no("passed another task", ground.alike(0, 0, 1, 0));
        ground.attempt(0, 1, false);
        Check.yes("both did", ground.alike(0, 0, 1, 0));
    }

    /** "(the program of the first PASS counts)" */
    static void theFirstPassCounts() {
        PracticeGround ground = groundOf("r=0", "r=a");
        Texts.read(ground, "r=a");
        ground.attempt(0, 0, false);
        Check.no("the later is alike", ground.alike(0, 0, 1, 0));
        Texts.read(ground, "r=0");
        ground.attempt(0, 2, true);
        Check.yes("the first is", ground.alike(0, 0, 2, 0));
    }

    static void aProgramThatFailedAheadOfThePassDoesNot() {
        PracticeGround ground = groundOf();
        Texts.read(ground, "r=1");
        ground.attempt(0, 0, false);
        Texts.read(ground, "r=0");
        ground.attempt(0, 0, false);
        ground.attempt(0, 1, false);
        Check.yes("alike", ground.alike(0, 0, 1, 3));
    }

    /** "with programs of one SHAPE" */
    static void cAndDMayBeExchanged() {
        alike("c=0;r=c", "d=0;r=d", true);
        alike("c=0;d=1;r=c", "d=0;c=1;r=d", true);
        alike("c=0;d=0;r=c", "d=0;c=0;r=c", false);
        alike("c=0;r=d", "c=0;r=c", false);
        alike("c=d;r=0", "d=c;r=0", true);
        alike("c=c;r=0", "d=c;r=0", false);
    }

    static void theFirstTokenCountsToo() {
        alike("c=0;r=0", "d=0;r=0", true);
        alike("a=0;r=0", "b=0;r=0", false);
        alike("a=0;r=0", "c=0;r=0", false);
        alike("if a{r=0}", "while a{r=0}", false);
    }

    static void aBAndRMayNot() {
        alike("r=a", "r=b", false);
        alike("r=a", "r=r", false);
        alike("r=a", "r=c", false);
        alike("r=b", "r=d", false);
        alike("r=r", "r=c", false);
        alike("r=c", "r=d", true);
    }

    static void numbersMustBeTheSame() {
        alike("r=0*1", "r=0*2", false);
        alike("r=0*1", "r=0*1", true);
        alike("r=0*1", "r = 0 * 01", true);
    }

    static void oneBeginIsNotEnough() {
        alike("r=0", "r=0;r=0", false);
        alike("r=0", "r=0+0", false);
    }

    static void anotherReadLeavesIt() {
        PracticeGround ground = groundOf("r=0", "r=0");
        Texts.read(ground, "r=a+b");
        Check.yes("alike", ground.alike(0, 0, 1, 3));
        Check.no("alike", ground.alike(0, 0, 1, 4));
    }

    static void theLastLearnerMayBeAlike() {
        PracticeGround ground = groundOf("r=0");
        Texts.read(ground, "r=0");
        ground.attempt(0, 7, false);
        Check.yes("alike(0, 0, 7)", ground.alike(0, 0, 7, 0));
        Check.yes("alike(0, 7, 0)", ground.alike(0, 7, 0, 0));
    }

    /** "IndexOutOfBoundsException: there is no such TASK" */
    static void noSuchTaskIsRefused() {
        for (int task : new int[] {-1, 10, Integer.MIN_VALUE, Integer.MAX_VALUE}) {
            Scene.FULL.leaves("alike(" + task + ")", "throws.IndexOutOfBoundsException",
                    ground -> ground.alike(task, 0, 1, 0) ? 1 : 0);
        }
        Scene.BARE.leaves("alike(0)", "throws.IndexOutOfBoundsException", ground -> ground.alike(0, 0, 1, 0) ? 1 : 0);
        Scene.BEGUN.leaves("alike(2)", "throws.IndexOutOfBoundsException", ground -> ground.alike(2, 0, 0, 0) ? 1 : 0);
    }

    /** "IndexOutOfBoundsException: there is no such .. LEARNER": the one, the other, one twice. */
    static void noSuchLearnerIsRefused() {
        for (int none : NO_LEARNER) {
            Scene.FULL.leaves("the first " + none, "throws.IndexOutOfBoundsException",
                    ground -> ground.alike(0, none, 0, 0) ? 1 : 0);
            Scene.FULL.leaves("the second " + none, "throws.IndexOutOfBoundsException",
                    ground -> ground.alike(0, 0, none, 0) ? 1 : 0);
            Scene.FULL.leaves("both " + none, "throws.IndexOutOfBoundsException",
                    ground -> ground.alike(0, none, none, 0) ? 1 : 0);
            Scene.BEGUN.leaves("one who did not pass, and " + none, "throws.IndexOutOfBoundsException",
                    ground -> ground.alike(1, 5, none, Integer.MAX_VALUE) ? 1 : 0);
        }
    }

    static void askingChangesNothing() {
        Scene.FULL.leaves("alike(1, 0, 7, 9)", "1", ground -> ground.alike(1, 0, 7, 9) ? 1 : 0);
        Scene.FULL.leaves("alike(1, 0, 7, 10)", "0", ground -> ground.alike(1, 0, 7, 10) ? 1 : 0);
    }
}
