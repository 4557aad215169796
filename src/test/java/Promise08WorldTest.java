/** Promise 8: world. Each test is of one boundary that the document names. */
public final class Promise08WorldTest {
    private static final int NONE = PracticeGround.NONE;
    private static final int LEAST = Integer.MIN_VALUE;
    private static final int GREATEST = Integer.MAX_VALUE;

    public static void main(String[] args) {
        Check.all(Promise08WorldTest.class);
    }

    private static PracticeGround tasks(int number) {
        PracticeGround ground = new PracticeGround();
        for (int i = 0; i < number; i++) {
            ground.task(0, 0);
        }
        return ground;
    }

    /** "WORLDS (at most 6, numbered from 0 on)" */
    static void sixWorldsAreNumberedFrom0On() {
        PracticeGround ground = tasks(1);
        for (int i = 0; i < 6; i++) {
            Check.same("world", ground.world(0, i, i, i), i);
            Check.same("look(0, 2)", ground.look(0, 2), i + 1);
        }
    }

    /** "NONE .. if it has 6" */
    static void a7thIsNone() {
        Scene.FULL.leaves("world(0, ..)", "-1", ground -> ground.world(0, 100, 100, 0));
    }

    /** "and it does not come" */
    static void a7thDoesNotCome() {
        PracticeGround ground = tasks(1);
        for (int i = 0; i < 6; i++) {
            ground.world(0, i, 0, i);
        }
        Check.same("a 7th", ground.world(0, 1, 1, 99), NONE);
        Check.same("6 stay", ground.look(0, 2), 6);
        Texts.read(ground, "r=a");
        Check.same("it is not asked", ground.attempt(0, 0, false), 0);
        Texts.read(ground, "if a<5{r=a}");
        Check.same("the 6th is", ground.attempt(0, 0, false), 6);
    }

    static void everyTaskHasItsOwn() {
        PracticeGround ground = tasks(10);
        for (int i = 0; i < 6; i++) {
            ground.world(9, 0, 0, 0);
        }
        Check.same("of the last", ground.world(9, 0, 0, 0), NONE);
        for (int task = 0; task < 9; task++) {
            Check.same("of " + task, ground.look(task, 2), 0);
            Check.same("of " + task, ground.world(task, 0, 0, 0), 0);
        }
    }

    /** "IndexOutOfBoundsException: there is no such TASK" */
    static void noSuchTaskIsRefused() {
        for (int task : new int[] {-1, 10, LEAST, GREATEST}) {
            Scene.FULL.leaves("world(" + task + ")", "throws.IndexOutOfBoundsException",
                    ground -> ground.world(task, 0, 0, 0));
        }
        Scene.BARE.leaves("world(0)", "throws.IndexOutOfBoundsException", ground -> ground.world(0, 0, 0, 0));
        Scene.BEGUN.leaves("world(2)", "throws.IndexOutOfBoundsException", ground -> ground.world(2, 0, 0, 0));
        Check.same("the last there is", Scene.BEGUN.made().world(1, 0, 0, 0), 0);
    }

    static void anyNumbersMakeAWorld() {
        int[] edges = {LEAST, -1, 0, 1, GREATEST};
        for (int a : edges) {
            for (int b : edges) {
                PracticeGround ground = tasks(1);
                ground.world(0, a, b, a + b);
                Texts.read(ground, "r=a+b");
                Check.same(a + " and " + b, ground.attempt(0, 0, false), 0);
                Texts.read(ground, "r=a+b+1");
                Check.same(a + " and " + b + ", another r", ground.attempt(0, 0, false), 1);
            }
        }
    }

    static void theSameWorldMayComeTwice() {
        PracticeGround ground = tasks(1);
        Check.same("first", ground.world(0, 1, 2, 3), 0);
        Check.same("second", ground.world(0, 1, 2, 3), 1);
    }

    /** "(What was PASSED stays.)" */
    static void whatWasPassedStays() {
        PracticeGround ground = tasks(1);
        ground.world(0, 1, 1, 2);
        Texts.read(ground, "r=2");
        ground.attempt(0, 3, false);
        ground.attempt(0, 4, false);
        ground.world(0, 1, 1, 99);
        Check.yes("passed", ground.passed(3, 0));
        Check.same("learners", ground.look(0, 4), 2);
        Check.same("ways", ground.look(0, 3), 1);
        Check.same("can", ground.can(3, 0), 16);
        Check.same("passes", ground.count(4), 2);
        Check.yes("alike", ground.alike(0, 3, 4, 3));
        Check.same("hint", ground.hint(0, 0), 0);
        Check.same("next", ground.next(3), NONE);
        Check.same("it passes no more", ground.attempt(0, 3, false), 2);
        Check.yes("but it stays", ground.passed(3, 0));
    }
}
