/** Promises 12 and 13: next, wish. */
public final class NextTest {
    private static final int NONE = PracticeGround.NONE;

    public static void main(String[] args) {
        greatestGain();
        gainGoesByCan();
        needs();
        gainOfNothing();
        wishes();
        shorterWish();
        wishByCan();
        longWish();
        refusals();
        Check.finish();
    }

    /** Tasks that show "=" and "+" as they are passed by r=a+b. */
    private static PracticeGround groundOf(int[] needs, int[] shows) {
        PracticeGround ground = new PracticeGround();
        for (int i = 0; i < needs.length; i++) {
            ground.task(needs[i], shows[i]);
            ground.world(i, 1, 2, 3);
        }
        Texts.read(ground, "r=a+b");
        return ground;
    }

    private static void greatestGain() {
        PracticeGround ground = groundOf(new int[] {0, 0, 0, 0}, new int[] {1, 192, 7, 224});
        Check.same("three skills, the least number", ground.next(0), 2);
        ground.attempt(2, 0, false);
        Check.same("the other of three", ground.next(0), 3);
        ground.attempt(3, 0, false);
        Check.same("two skills", ground.next(0), 1);
        ground.attempt(1, 0, false);
        Check.same("one skill", ground.next(0), 0);
        ground.attempt(0, 0, false);
        Check.same("all passed", ground.next(0), NONE);
        Check.same("of another", ground.next(1), 2);
        Check.same("a task without a world", ground.task(0, 255), 4);
        Check.same("is none", ground.next(0), NONE);
        ground.world(4, 0, 0, 0);
        Check.same("with one it is", ground.next(0), 4);
        ground.world(0, 5, 5, 5);
        Check.same("what was passed stays", ground.next(0), 4);
    }

    private static void gainGoesByCan() {
        PracticeGround ground = groundOf(new int[] {0, 0, 0, 0}, new int[] {0, 3, 12, 4});
        Check.same("the least number", ground.next(0), 1);
        ground.attempt(0, 0, true);
        // 60 and 60 against 64 and 64.
        Check.same("the greater gain", ground.next(0), 2);
        ground.attempt(2, 0, true);
        Check.same("56 and 56 against 64", ground.next(0), 1);
    }

    private static void needs() {
        PracticeGround ground = groundOf(new int[] {0, 0, 1, 3, 4}, new int[] {0, 0, 2, 255, 255});
        Check.same("without needs", ground.next(0), 0);
        ground.attempt(0, 0, false);
        Check.same("16 is not enough", ground.next(0), 1);
        ground.attempt(1, 0, false);
        Check.same("32 is", ground.next(0), 3);
        ground.attempt(3, 0, false);
        Check.same("then the lesser", ground.next(0), 2);
        ground.attempt(2, 0, false);
        Check.same("a skill that is not there", ground.next(0), NONE);
        for (int i = 0; i < 5; i++) {
            ground.attempt(i, 1, true);
        }
        Check.same("20 is not enough", ground.can(1, 0), 20);
        Check.same("20 is not enough", ground.next(1), NONE);
        PracticeGround other = groundOf(new int[] {0, 0, 0, 0, 1}, new int[] {0, 0, 0, 0, 0});
        other.attempt(0, 0, false);
        other.attempt(1, 0, true);
        other.attempt(2, 0, true);
        other.attempt(3, 0, true);
        Check.same("28", other.can(0, 0), 28);
        Check.same("28 is not enough", other.next(0), NONE);
    }

    private static void gainOfNothing() {
        PracticeGround ground = groundOf(new int[] {0, 0}, new int[] {0, 0});
        Check.same("no gain is a gain too", ground.next(0), 0);
        ground.attempt(0, 0, false);
        Check.same("no gain is a gain too", ground.next(0), 1);
    }

    private static void wishes() {
        PracticeGround ground = new PracticeGround();
        ground.task(0, 3);
        ground.task(3, 12);
        ground.task(8, 32);
        ground.task(16, 16);
        ground.task(32 | 16, 64);
        ground.task(32 | 4 | 1, 128);
        int[] due = {1, 1, 2, 2, NONE, 3, NONE, 4};
        for (int skill = 0; skill < 8; skill++) {
            Check.same("wish(0, " + skill + ")", ground.wish(0, skill), due[skill]);
        }
    }

    private static void shorterWish() {
        PracticeGround ground = new PracticeGround();
        // The long way stands first, and the greedy choice of the richest task leads to it.
        ground.task(0, 1);
        ground.task(1, 2);
        ground.task(2, 4);
        ground.task(4, 128);
        ground.task(0, 32 | 16 | 64);
        ground.task(0, 8);
        ground.task(8, 128);
        Check.same("the fewest", ground.wish(0, 7), 2);
        Check.same("one", ground.wish(0, 6), 1);
        ground.task(1 | 8, 0);
        Check.same("two branches", ground.wish(0, 2), 3);
        PracticeGround joined = new PracticeGround();
        joined.task(1 | 2 | 4, 128);
        joined.task(0, 1);
        joined.task(0, 2);
        joined.task(0, 4);
        Check.same("three ahead", joined.wish(0, 7), 4);
        joined.task(1, 2 | 4);
        Check.same("two ahead", joined.wish(0, 7), 3);
        joined.task(128, 64);
        Check.same("one behind", joined.wish(0, 6), 4);
    }

    private static void wishByCan() {
        PracticeGround ground = groundOf(new int[] {0, 1, 2}, new int[] {1, 4, 8});
        Check.same("wish", ground.wish(2, 2), 2);
        Check.same("never", ground.wish(2, 3), NONE);
        ground.attempt(0, 2, false);
        Check.same("16 is not enough", ground.wish(2, 0), 1);
        Check.same("16 is not enough", ground.wish(2, 1), NONE);
        ground.attempt(1, 2, false);
        Check.same("there at once", ground.wish(2, 0), 0);
        Check.same("there at once", ground.wish(2, 1), 0);
        Check.same("a task that was passed counts", ground.wish(2, 2), 1);
        Check.same("wish", ground.wish(2, 3), 1);
        Check.same("of another", ground.wish(3, 0), 1);
    }

    private static void longWish() {
        PracticeGround ground = new PracticeGround();
        for (int i = 7; i >= 0; i--) {
            ground.task((1 << i) - 1, 1 << i);
        }
        for (int skill = 0; skill < 8; skill++) {
            Check.same("wish " + skill, ground.wish(7, skill), skill + 1);
        }
    }

    private static void refusals() {
        PracticeGround ground = new PracticeGround();
        for (int wrong : new int[] {-1, 8, 32, Integer.MIN_VALUE, Integer.MAX_VALUE}) {
            Check.refused("next", IndexOutOfBoundsException.class, () -> ground.next(wrong));
            Check.refused("wish", IndexOutOfBoundsException.class, () -> ground.wish(wrong, 0));
            Check.refused("wish", IndexOutOfBoundsException.class, () -> ground.wish(0, wrong));
        }
        Check.same("without tasks", ground.next(7), NONE);
        Check.same("without tasks", ground.wish(7, 7), NONE);
    }
}
