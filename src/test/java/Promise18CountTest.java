/** Promise 18: count. Each test is of one boundary that the document names. */
public final class Promise18CountTest {
    public static void main(String[] args) {
        Check.all(Promise18CountTest.class);
    }

    private static void counts(PracticeGround ground, int... due) {
        for (int what = 0; what <= 4; what++) {
            Check.same("count(" + what + ")", ground.count(what), due[what]);
        }
    }

    /** "NONE for another what" */
    static void anotherWhatIsNone() {
        for (int what : new int[] {-1, 5, 6, Integer.MIN_VALUE, Integer.MAX_VALUE}) {
            for (Scene scene : Scene.values()) {
                scene.leaves("count(" + what + ")", "-1", ground -> ground.count(what));
            }
        }
    }

    static void aNewObjectHasNone() {
        counts(new PracticeGround(), 0, 0, 0, 0, 0);
    }

    /** "0 TASKS": 10 at most, and none that was refused. */
    static void tasksAreCountedTo10() {
        PracticeGround ground = new PracticeGround();
        for (int i = 1; i <= 12; i++) {
            Check.answer(() -> ground.task(0, 0));
            Check.answer(() -> ground.task(0, 256));
            counts(ground, Math.min(i, 10), 0, 0, 0, 0);
        }
    }

    /** "1 TOKENS of THE SLATE": from 3 to 119, of the program that was read last. */
    static void tokensAreOfTheSlate() {
        PracticeGround ground = new PracticeGround();
        Texts.read(ground, "r=" + "1+".repeat(58) + "1");
        counts(ground, 0, 119, 1, 0, 0);
        Texts.read(ground, "r=1");
        counts(ground, 0, 3, 2, 0, 0);
        Texts.wrong(ground, "r=1+1;", 6);
        counts(ground, 0, 3, 2, 0, 0);
    }

    /** "2 programs that were read": none that is wrong; one that is read again counts again. */
    static void rightProgramsAreCounted() {
        PracticeGround ground = new PracticeGround();
        Texts.wrong(ground, "", 0);
        counts(ground, 0, 0, 0, 0, 0);
        Texts.read(ground, "r=1");
        Texts.read(ground, "r=1");
        counts(ground, 0, 3, 2, 0, 0);
        Texts.wrong(ground, "r", 1);
        counts(ground, 0, 3, 2, 0, 0);
    }

    /** "3 TRIES": those that fail too. */
    static void triesAreCountedWhetherTheyPassOrNot() {
        PracticeGround ground = new PracticeGround();
        ground.task(0, 0);
        ground.world(0, 0, 0, 1);
        Texts.read(ground, "r=0");
        ground.attempt(0, 0, false);
        counts(ground, 1, 3, 1, 1, 0);
        Texts.read(ground, "r=1");
        ground.attempt(0, 0, false);
        counts(ground, 1, 3, 2, 2, 1);
    }

    /** A call at a TASK without WORLDS is none; nor is one that is refused. */
    static void withoutWorldsItIsNoTry() {
        PracticeGround ground = new PracticeGround();
        ground.task(0, 0);
        Check.refused("no program", IllegalStateException.class, () -> ground.attempt(0, 0, false));
        counts(ground, 1, 0, 0, 0, 0);
        Texts.read(ground, "r=0");
        ground.attempt(0, 0, false);
        counts(ground, 1, 3, 1, 0, 0);
        ground.world(0, 0, 0, 0);
        Check.refused("no task", IndexOutOfBoundsException.class, () -> ground.attempt(1, 0, false));
        Check.refused("no learner", IndexOutOfBoundsException.class, () -> ground.attempt(0, 8, false));
        counts(ground, 1, 3, 1, 0, 0);
    }

    /** "4 passes": each TRY that PASSES, also of one who PASSED before, hinted or not. */
    static void passesAreCountedEachTime() {
        PracticeGround ground = new PracticeGround();
        ground.task(0, 0);
        ground.world(0, 0, 0, 0);
        Texts.read(ground, "r=0");
        for (int i = 1; i <= 12; i++) {
            ground.attempt(0, i % 2, i % 3 == 0);
            counts(ground, 1, 3, 1, i, i);
        }
    }

    static void runsAndHintsAreNoTries() {
        PracticeGround ground = new PracticeGround();
        ground.task(0, 0);
        ground.world(0, 0, 0, 0);
        Texts.read(ground, "r=0");
        ground.run(0, 0, 0);
        ground.hint(0, 0);
        counts(ground, 1, 3, 1, 0, 0);
    }

    static void askingChangesNothing() {
        int[] due = {10, 5, 15, 14, 14};
        for (int what = 0; what <= 4; what++) {
            int each = what;
            Scene.FULL.leaves("count(" + what + ")", Integer.toString(due[what]), ground -> ground.count(each));
        }
    }
}
