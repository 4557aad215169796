/** Promises 9, 10, 11 and 18: attempt, can, passed, count. */
public final class TryTest {
    public static void main(String[] args) {
        answers();
        canGrows();
        canAtMost64();
        shownInSomeWorld();
        passedStays();
        refusals();
        counts();
        Check.finish();
    }

    private static void answers() {
        PracticeGround ground = new PracticeGround();
        ground.task(0, 0);
        Texts.read(ground, "r=a/b");
        Check.same("without worlds", ground.attempt(0, 0, false), PracticeGround.NONE);
        ground.world(0, 6, 3, 2);
        ground.world(0, 9, 4, 2);
        ground.world(0, 8, 0, 0);
        Check.same("a division by 0 is not done", ground.attempt(0, 0, false), 3);
        Texts.read(ground, "r=2");
        Check.same("another r", ground.attempt(0, 0, false), 3);
        Texts.read(ground, "r=a-4");
        Check.same("the first that it does not pass", ground.attempt(0, 0, false), 2);
        Texts.read(ground, "r=1");
        Check.same("world 0", ground.attempt(0, 0, false), 1);
        Check.no("passed", ground.passed(0, 0));
        Texts.read(ground, "if b{r=a/b}");
        Check.same("passes", ground.attempt(0, 0, false), 0);
        Check.yes("passed", ground.passed(0, 0));
        Texts.read(ground, "if b{r=a/b};while 1{c=1}");
        Check.same("dry is not done", ground.attempt(0, 0, false), 1);
        Check.yes("passed stays", ground.passed(0, 0));
    }

    private static void canGrows() {
        PracticeGround ground = new PracticeGround();
        ground.task(255, 128);
        ground.task(0, 0);
        ground.world(0, 1, 2, 3);
        ground.world(1, 1, 2, 3);
        Texts.read(ground, "r=a+b*1");
        ground.attempt(0, 3, false);
        cans(ground, 3, new int[] {16, 16, 16, 0, 0, 0, 0, 0});
        ground.attempt(0, 3, false);
        cans(ground, 3, new int[] {16, 16, 16, 0, 0, 0, 0, 0});
        Texts.read(ground, "if a<b{r=6/2}");
        ground.attempt(0, 3, false);
        cans(ground, 3, new int[] {16, 16, 16, 0, 0, 0, 0, 0});
        ground.attempt(1, 3, true);
        cans(ground, 3, new int[] {20, 16, 16, 4, 4, 4, 0, 0});
        ground.attempt(1, 3, false);
        cans(ground, 3, new int[] {20, 16, 16, 4, 4, 4, 0, 0});
        cans(ground, 2, new int[] {0, 0, 0, 0, 0, 0, 0, 0});
        cans(ground, 4, new int[] {0, 0, 0, 0, 0, 0, 0, 0});
        Texts.read(ground, "r=4-1*2");
        ground.attempt(1, 4, false);
        cans(ground, 4, new int[] {0, 0, 0, 0, 0, 0, 0, 0});
    }

    private static void canAtMost64() {
        PracticeGround ground = new PracticeGround();
        Texts.read(ground, "r=1");
        for (int i = 0; i < 10; i++) {
            ground.task(0, 0);
            ground.world(i, 0, 0, 1);
        }
        ground.attempt(0, 0, true);
        for (int i = 1; i <= 3; i++) {
            ground.attempt(i, 0, false);
            Check.same("can", ground.can(0, 0), 4 + 16 * i);
        }
        ground.attempt(4, 0, true);
        Check.same("can", ground.can(0, 0), 56);
        ground.attempt(5, 0, false);
        Check.same("64 at most", ground.can(0, 0), 64);
        ground.attempt(6, 0, false);
        ground.attempt(7, 0, true);
        Check.same("64 at most", ground.can(0, 0), 64);
        for (int i = 0; i < 4; i++) {
            ground.attempt(i, 7, false);
        }
        Check.same("just 64", ground.can(7, 0), 64);
        ground.attempt(4, 7, true);
        Check.same("64 at most, hinted", ground.can(7, 0), 64);
    }

    private static void shownInSomeWorld() {
        PracticeGround ground = new PracticeGround();
        ground.task(0, 0);
        ground.world(0, 0, 0, 0);
        ground.world(0, 1, 5, 6);
        ground.world(0, 2, 5, 10);
        ground.world(0, 3, 0, 0);
        Texts.read(ground, "c=1;while c{c=0;if a%3{if a<2{r=a+b}else{r=a*b}}}");
        Check.same("passes", ground.attempt(0, 1, false), 0);
        cans(ground, 1, new int[] {16, 16, 16, 16, 16, 16, 16, 0});
    }

    private static void passedStays() {
        PracticeGround ground = new PracticeGround();
        ground.task(0, 0);
        ground.world(0, 1, 1, 2);
        Texts.read(ground, "r=2");
        ground.attempt(0, 5, false);
        ground.world(0, 1, 2, 3);
        Check.yes("passed stays", ground.passed(5, 0));
        Check.same("the way stays", ground.look(0, 3), 1);
        Check.same("but it passes no more", ground.attempt(0, 6, false), 2);
        Check.yes("passed stays still", ground.passed(5, 0));
        Check.no("of another", ground.passed(6, 0));
        Texts.read(ground, "r=a+b");
        ground.attempt(0, 5, false);
        Check.same("no can any more", ground.can(5, 1), 0);
        Check.same("another way", ground.look(0, 3), 2);
    }

    private static void refusals() {
        PracticeGround ground = new PracticeGround();
        int[] noLearner = {-1, 8, Integer.MIN_VALUE, Integer.MAX_VALUE};
        Check.refused("no task", IndexOutOfBoundsException.class, () -> ground.attempt(0, 0, false));
        Check.refused("no task", IndexOutOfBoundsException.class, () -> ground.passed(0, 0) ? 1 : 0);
        ground.task(0, 0);
        Check.refused("nothing on the slate", IllegalStateException.class, () -> ground.attempt(0, 0, false));
        ground.world(0, 0, 0, 1);
        Check.refused("nothing on the slate", IllegalStateException.class, () -> ground.attempt(0, 7, true));
        for (int wrong : noLearner) {
            Check.refused("told first", IndexOutOfBoundsException.class, () -> ground.attempt(0, wrong, false));
            Check.refused("task", IndexOutOfBoundsException.class, () -> ground.attempt(wrong, 0, false));
            Check.refused("can", IndexOutOfBoundsException.class, () -> ground.can(wrong, 0));
            Check.refused("can", IndexOutOfBoundsException.class, () -> ground.can(0, wrong));
            Check.refused("passed", IndexOutOfBoundsException.class, () -> ground.passed(wrong, 0) ? 1 : 0);
            Check.refused("passed", IndexOutOfBoundsException.class, () -> ground.passed(0, wrong) ? 1 : 0);
        }
        Check.refused("task 1", IndexOutOfBoundsException.class, () -> ground.attempt(1, 0, false));
        Check.refused("task 1", IndexOutOfBoundsException.class, () -> ground.passed(0, 1) ? 1 : 0);
        Check.same("no try", ground.count(3), 0);
        // passed takes the LEARNER first.
        Check.no("learner 7, task 0", ground.passed(7, 0));
    }

    private static void counts() {
        PracticeGround ground = new PracticeGround();
        ground.task(0, 0);
        ground.task(0, 0);
        ground.world(0, 0, 0, 1);
        Texts.read(ground, "r=0");
        ground.attempt(1, 0, false);
        due(ground, new int[] {2, 3, 1, 0, 0});
        ground.attempt(0, 0, false);
        due(ground, new int[] {2, 3, 1, 1, 0});
        Texts.read(ground, "r=0+1");
        due(ground, new int[] {2, 5, 2, 1, 0});
        ground.attempt(0, 0, true);
        due(ground, new int[] {2, 5, 2, 2, 1});
        ground.attempt(0, 0, false);
        due(ground, new int[] {2, 5, 2, 3, 2});
        for (int what : new int[] {-1, 5, Integer.MIN_VALUE, Integer.MAX_VALUE}) {
            Check.same("count(" + what + ")", ground.count(what), PracticeGround.NONE);
        }
    }

    private static void due(PracticeGround ground, int[] due) {
        for (int what = 0; what < due.length; what++) {
            Check.same("count(" + what + ")", ground.count(what), due[what]);
        }
    }

    private static void cans(PracticeGround ground, int learner, int[] due) {
        for (int skill = 0; skill < due.length; skill++) {
            Check.same("can(" + learner + ", " + skill + ")", ground.can(learner, skill), due[skill]);
        }
    }
}
