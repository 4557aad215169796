/** Promise 1: a new object. Each test is of one boundary that the document names. */
public final class Promise01NewObjectTest {
    private static final int NONE = PracticeGround.NONE;

    public static void main(String[] args) {
        Check.all(Promise01NewObjectTest.class);
    }

    /** "No TASKS" */
    static void hasNoTasks() {
        PracticeGround ground = new PracticeGround();
        Check.same("count(0)", ground.count(0), 0);
        Check.refused("look", IndexOutOfBoundsException.class, () -> ground.look(0, 0));
        Check.refused("world", IndexOutOfBoundsException.class, () -> ground.world(0, 0, 0, 0));
        Check.same("the first is number 0", ground.task(0, 0), 0);
    }

    /** "nothing on THE SLATE" */
    static void hasNothingOnTheSlate() {
        PracticeGround ground = new PracticeGround();
        Check.same("count(1)", ground.count(1), 0);
        Check.same("token(0)", ground.token(0), NONE);
        Check.refused("run", IllegalStateException.class, () -> ground.run(0, 0, 0));
        ground.task(0, 0);
        Check.refused("hint", IllegalStateException.class, () -> ground.hint(0, 0));
        Check.refused("attempt", IllegalStateException.class, () -> ground.attempt(0, 0, false));
    }

    /** CAN: "0 at first" */
    static void everyCanIs0AtFirst() {
        PracticeGround ground = new PracticeGround();
        for (int learner = 0; learner < 8; learner++) {
            for (int skill = 0; skill < 8; skill++) {
                Check.same("can(" + learner + ", " + skill + ")", ground.can(learner, skill), 0);
            }
        }
    }

    static void hasAnEmptyTape() {
        PracticeGround ground = new PracticeGround();
        Check.no("end(1)", ground.end(1));
        Check.yes("end(0)", ground.end(0));
        Check.same("feed", ground.feed(0, 0, 0, 0, 0), 20);
    }

    /** fault: "NONE .. ahead of any" */
    static void hasNoFault() {
        Check.same("fault()", new PracticeGround().fault(), NONE);
    }

    static void hasCountedNothing() {
        PracticeGround ground = new PracticeGround();
        for (int what = 0; what <= 4; what++) {
            Check.same("count(" + what + ")", ground.count(what), 0);
        }
    }

    static void hasNothingOfAnother() {
        PracticeGround full = Scene.FULL.made();
        PracticeGround ground = new PracticeGround();
        for (int what = 0; what <= 4; what++) {
            Check.same("count(" + what + ")", ground.count(what), 0);
        }
        Check.same("fault()", ground.fault(), NONE);
        Check.no("end(1)", ground.end(1));
        Check.same("can", ground.can(0, 0), 0);
        Check.same("the first task", ground.task(0, 0), 0);
        Check.no("passed", ground.passed(0, 0));
        Check.same("ways", ground.look(0, 3), 0);
        Check.same("the other stays", full.count(0), 10);
    }

    /** "An object is used for at most 512 calls": the last of them is one as the others. */
    static void answersItsLastCallToo() {
        PracticeGround ground = new PracticeGround();
        for (int i = 0; i < 170; i++) {
            ground.feed(0x723d6120, 0, 0, 0, 0);
            ground.end(3);
            ground.read();
        }
        Check.same("call 511", ground.count(2), 170);
        Check.same("call 512", ground.run(77, 0, 1), 77);
    }
}
