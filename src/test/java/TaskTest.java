import java.util.NoSuchElementException;

/** Promises 7, 8 and 14: task, world, look; and count(0). */
public final class TaskTest {
    public static void main(String[] args) {
        tasks();
        worlds();
        looks();
        Check.finish();
    }

    private static void tasks() {
        PracticeGround ground = new PracticeGround();
        int[] wrong = {-1, 256, Integer.MIN_VALUE, Integer.MAX_VALUE};
        for (int set : wrong) {
            Check.refused("needs " + set, IllegalArgumentException.class, () -> ground.task(set, 0));
            Check.refused("shows " + set, IllegalArgumentException.class, () -> ground.task(0, set));
        }
        Check.same("none came", ground.count(0), 0);
        for (int i = 0; i < 10; i++) {
            Check.same("task " + i, ground.task(i == 9 ? 255 : i, 255 - i), i);
            Check.same("count(0)", ground.count(0), i + 1);
        }
        Check.refused("an 11th", UnsupportedOperationException.class, () -> ground.task(0, 0));
        Check.refused("told first", IllegalArgumentException.class, () -> ground.task(0, 256));
        Check.same("10 stay", ground.count(0), 10);
        for (int i = 0; i < 10; i++) {
            Check.same("needs", ground.look(i, 0), i == 9 ? 255 : i);
            Check.same("shows", ground.look(i, 1), 255 - i);
        }
    }

    private static void worlds() {
        PracticeGround ground = new PracticeGround();
        Check.refused("no task", IndexOutOfBoundsException.class, () -> ground.world(0, 1, 2, 3));
        ground.task(0, 0);
        ground.task(0, 0);
        for (int task : new int[] {-1, 2, Integer.MIN_VALUE, Integer.MAX_VALUE}) {
            Check.refused("task " + task, IndexOutOfBoundsException.class, () -> ground.world(task, 1, 2, 3));
        }
        for (int i = 0; i < 6; i++) {
            Check.same("world " + i, ground.world(1, i, 10, i + 10), i);
        }
        Check.same("a 7th", ground.world(1, 0, 0, 99), PracticeGround.NONE);
        Check.same("6 stay", ground.look(1, 2), 6);
        Check.same("of the other", ground.look(0, 2), 0);
        Check.same("its first", ground.world(0, 0, 0, 0), 0);
        Texts.read(ground, "r=a+b");
        Check.same("the 7th did not come", ground.attempt(1, 0, false), 0);
        Texts.read(ground, "if a<5{r=a+b}");
        Check.same("the 6th is asked", ground.attempt(1, 0, false), 6);
    }

    private static void looks() {
        PracticeGround ground = new PracticeGround();
        Check.refused("no task", IndexOutOfBoundsException.class, () -> ground.look(0, 0));
        Check.refused("told first", IndexOutOfBoundsException.class, () -> ground.look(0, 5));
        ground.task(3, 5);
        for (int what : new int[] {-1, 5, Integer.MIN_VALUE, Integer.MAX_VALUE}) {
            Check.refused("what " + what, NoSuchElementException.class, () -> ground.look(0, what));
        }
        Check.refused("task -1", IndexOutOfBoundsException.class, () -> ground.look(-1, 0));
        Check.refused("task 1", IndexOutOfBoundsException.class, () -> ground.look(1, 0));
        due(ground, new int[] {3, 5, 0, 0, 0});
        ground.world(0, 1, 2, 3);
        due(ground, new int[] {3, 5, 1, 0, 0});
        Texts.read(ground, "r=a*b");
        ground.attempt(0, 0, false);
        due(ground, new int[] {3, 5, 1, 0, 0});
        Texts.read(ground, "r=a+b");
        ground.attempt(0, 0, false);
        due(ground, new int[] {3, 5, 1, 1, 1});
        ground.attempt(0, 0, true);
        due(ground, new int[] {3, 5, 1, 1, 1});
        ground.attempt(0, 7, true);
        due(ground, new int[] {3, 5, 1, 1, 2});
        Texts.read(ground, "r=3");
        ground.attempt(0, 7, true);
        due(ground, new int[] {3, 5, 1, 2, 2});
        for (int learner = 0; learner < 8; learner++) {
            ground.attempt(0, learner, false);
        }
        due(ground, new int[] {3, 5, 1, 2, 8});
        mostWays(ground);
    }

    private static void mostWays(PracticeGround ground) {
        for (int i = 3; i <= 10; i++) {
            Texts.read(ground, "r=" + (3 + i) + "-" + i);
            ground.attempt(0, 0, false);
            due(ground, new int[] {3, 5, 1, i, 8});
        }
        Texts.read(ground, "r=1*3");
        Check.same("an 11th passes", ground.attempt(0, 0, false), 0);
        due(ground, new int[] {3, 5, 1, 10, 8});
        Check.same("but is not kept", ground.hint(0, 0), 2);
        Check.same("the nearest", ground.hint(0, 1), 1);
        Texts.read(ground, "r=4-1");
        Check.same("of those that came first", ground.hint(0, 1), 2);
        Texts.read(ground, "r=13-10");
        Check.same("the 10th way", ground.hint(0, 1), 9);
        Check.same("the 10th way", ground.hint(0, 0), 0);
    }

    private static void due(PracticeGround ground, int[] due) {
        for (int what = 0; what < due.length; what++) {
            Check.same("look(0, " + what + ")", ground.look(0, what), due[what]);
        }
    }
}
