/** Promise 12: next. Each test is of one boundary that the document names. */
public final class Promise12NextTest {
    private static final int NONE = PracticeGround.NONE;

    public static void main(String[] args) {
        Check.all(Promise12NextTest.class);
    }

    /** TASKS with these NEEDS and SHOWS; r=0, which is on THE SLATE, passes each and shows SKILL 0. */
    private static PracticeGround groundOf(int... needsAndShows) {
        PracticeGround ground = new PracticeGround();
        for (int i = 0; i + 1 < needsAndShows.length; i += 2) {
            ground.task(needsAndShows[i], needsAndShows[i + 1]);
            ground.world(i / 2, 0, 0, 0);
        }
        Texts.read(ground, "r=0");
        return ground;
    }

    /** "NONE without one": no TASKS at all. */
    static void withoutTasksItIsNone() {
        for (int learner = 0; learner < 8; learner++) {
            Check.same("next(" + learner + ")", new PracticeGround().next(learner), NONE);
        }
    }

    /** "NONE without one": all PASSED. */
    static void withAllPassedItIsNone() {
        PracticeGround ground = groundOf(0, 1, 0, 1);
        ground.attempt(0, 0, false);
        Check.same("one is left", ground.next(0), 1);
        ground.attempt(1, 0, false);
        Check.same("none is left", ground.next(0), NONE);
    }

    /** "NONE without one": NEEDS that are not there. */
    static void withoutTheNeedsItIsNone() {
        PracticeGround ground = groundOf(1, 255, 128, 255, 255, 255);
        Check.same("next", ground.next(0), NONE);
    }

    /** "TASKS with a WORLD" */
    static void aTaskWithoutAWorldIsNone() {
        PracticeGround ground = new PracticeGround();
        ground.task(0, 255);
        Check.same("without", ground.next(0), NONE);
        ground.world(0, 0, 0, 0);
        Check.same("with one", ground.next(0), 0);
    }

    /** "that it did not PASS": a WORLD that comes later changes nothing, nor does another's pass. */
    static void whatWasPassedIsNoneForGood() {
        PracticeGround ground = groundOf(0, 1);
        ground.attempt(0, 1, false);
        Check.same("another's", ground.next(0), 0);
        Check.same("its own", ground.next(1), NONE);
        ground.world(0, 0, 0, 5);
        Check.same("with another world", ground.next(1), NONE);
    }

    /** "CAN each of the SKILLS that it NEEDS by 32 at least": 32 is enough. */
    static void aNeedOf32IsThere() {
        PracticeGround ground = groundOf(0, 0, 0, 0, 1, 0);
        ground.attempt(0, 0, false);
        ground.attempt(1, 0, false);
        Check.same("can", ground.can(0, 0), 32);
        Check.same("next", ground.next(0), 2);
    }

    /** 28 is the most below it, as CAN goes by 4. */
    static void aNeedOf28IsNot() {
        PracticeGround ground = groundOf(0, 0, 0, 0, 0, 0, 0, 0, 1, 0);
        ground.attempt(0, 0, false);
        for (int task = 1; task < 4; task++) {
            ground.attempt(task, 0, true);
        }
        Check.same("can", ground.can(0, 0), 28);
        Check.same("next", ground.next(0), NONE);
    }

    /** Of every SKILL, with what else its program shows. */
    static void everySkillMayBeANeed() {
        String[] texts = {"r=0", "if 0+0{r=0}", "if 0*0{r=0}", "if 0/1{r=0}", "if 1<0{r=0}", "if 0{r=0}", "while 0{r=0}",
            "c=1;while c{c=0;while 0{r=0}}"};
        int[] shown = {1, 2 | 32, 4 | 32, 8 | 32, 16 | 32, 32, 64, 1 | 64 | 128};
        for (int i = 0; i < 8; i++) {
            for (int skill = 0; skill < 8; skill++) {
                PracticeGround ground = groundOf(0, 0, 0, 0, 1 << skill, 0);
                Texts.read(ground, texts[i]);
                ground.attempt(0, 0, false);
                ground.attempt(1, 0, false);
                boolean there = (shown[i] >> skill & 1) == 1;
                Check.same(texts[i] + " for skill " + skill, ground.next(0), there ? 2 : NONE);
            }
        }
    }

    /** "each of the SKILLS": one that is missing is enough. */
    static void everyNeedMustBeThere() {
        PracticeGround ground = groundOf(0, 0, 0, 0, 3, 255, 1, 0, 129, 255);
        ground.attempt(0, 0, false);
        ground.attempt(1, 0, false);
        Check.same("next", ground.next(0), 3);
    }

    /** "that with the greatest GAIN" */
    static void theGreatestGainIsIt() {
        Check.same("more skills", groundOf(0, 1, 0, 3, 0, 2).next(0), 1);
        Check.same("the last", groundOf(0, 1, 0, 3, 0, 255).next(0), 2);
        Check.same("the first", groundOf(0, 7, 0, 3, 0, 1).next(0), 0);
    }

    /** "the sum of 64 less CAN, of all SKILLS that it SHOWS": 60 is less than 64. */
    static void gainIsLessByWhatItCan() {
        PracticeGround ground = groundOf(0, 0, 0, 1, 0, 2);
        Check.same("64 and 64", ground.next(0), 1);
        ground.attempt(0, 0, true);
        Check.same("60 and 64", ground.next(0), 2);
        Check.same("of another 64 and 64", ground.next(1), 1);
    }

    /** Of two SKILLS that it CAN by much the sum is less than that of one that it cannot. */
    static void theSumCountsNotTheNumberOfSkills() {
        PracticeGround ground = groundOf(0, 0, 0, 0, 0, 0, 0, 3, 0, 4);
        Texts.read(ground, "r=0+0");
        ground.attempt(0, 0, false);
        ground.attempt(1, 0, false);
        // 32 and 32 against 64.
        Check.same("as much", ground.next(0), 3);
        ground.attempt(2, 0, true);
        Check.same("28 and 28 against 64", ground.next(0), 4);
    }

    /** "of several the least number" */
    static void ofSeveralTheLeastNumber() {
        Check.same("of three", groundOf(0, 4, 0, 4, 0, 4).next(0), 0);
        Check.same("of two behind one", groundOf(0, 0, 0, 4, 0, 8).next(0), 1);
        PracticeGround ground = groundOf(0, 4, 0, 4, 0, 4);
        ground.attempt(0, 0, false);
        Check.same("of those that are left", ground.next(0), 1);
    }

    /** A GAIN of 0 is the greatest where there is no other. */
    static void aGainOf0MayBeTheGreatest() {
        PracticeGround ground = groundOf(0, 0, 0, 0);
        Check.same("shows nothing", ground.next(0), 0);
        PracticeGround full = groundOf(0, 1, 0, 1, 0, 1, 0, 1, 0, 1);
        for (int task = 0; task < 4; task++) {
            full.attempt(task, 0, false);
        }
        Check.same("can", full.can(0, 0), 64);
        Check.same("shows what it can by 64", full.next(0), 4);
    }

    static void theTenthTaskMayBeIt() {
        PracticeGround ground = groundOf(0, 1, 0, 1, 0, 1, 0, 1, 0, 1, 0, 1, 0, 1, 0, 1, 0, 1, 0, 3);
        Check.same("next", ground.next(7), 9);
    }

    /** "IndexOutOfBoundsException: there is no such .. LEARNER" */
    static void noSuchLearnerIsRefused() {
        for (int learner : new int[] {-1, 8, Integer.MIN_VALUE, Integer.MAX_VALUE}) {
            for (Scene scene : Scene.values()) {
                scene.leaves("next(" + learner + ")", "throws.IndexOutOfBoundsException", ground -> ground.next(learner));
            }
        }
    }

    static void askingChangesNothing() {
        Scene.BARE.leaves("next(0)", "-1", ground -> ground.next(0));
        Scene.BEGUN.leaves("next(7)", "0", ground -> ground.next(7));
        Scene.FULL.leaves("next(7)", "0", ground -> ground.next(7));
    }
}
