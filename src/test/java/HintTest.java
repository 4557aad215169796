import java.util.NoSuchElementException;

/** Promises 15 and 16: hint, alike. */
public final class HintTest {
    private static final int NONE = PracticeGround.NONE;

    public static void main(String[] args) {
        firstChanges();
        longHints();
        nearest();
        shapes();
        alike();
        refusals();
        Check.finish();
    }

    /** A task that any program passes that ends with r 0 for a and b 0. */
    private static PracticeGround groundOf(String... ways) {
        PracticeGround ground = new PracticeGround();
        ground.task(0, 0);
        ground.world(0, 0, 0, 0);
        for (String way : ways) {
            Texts.read(ground, way);
            Check.same("\"" + way + "\" passes", ground.attempt(0, 0, false), 0);
        }
        return ground;
    }

    private static void hints(PracticeGround ground, String slate, int... due) {
        Texts.read(ground, slate);
        for (int what = 0; what < 5; what++) {
            Check.same("\"" + slate + "\" hint(0, " + what + ")", ground.hint(0, what), due[what]);
        }
    }

    private static void firstChanges() {
        PracticeGround ground = groundOf("r=a+b");
        hints(ground, "r=a+b", 0, 0, NONE, NONE, NONE);
        hints(ground, "r=a-b", 1, 0, 0, 3, '+');
        hints(ground, "a=a+b", 1, 0, 0, 0, 'r');
        hints(ground, "r=a+1", 1, 0, 0, 4, 'b');
        hints(ground, "r=a", 2, 0, 1, 3, '+');
        // b passes by the b: both puts stand ahead of it.
        hints(ground, "r=b", 2, 0, 1, 2, 'a');
        hints(ground, "r=a+b+b", 2, 0, 2, 5, NONE);
        hints(ground, "r=b+a+b", 2, 0, 2, 2, NONE);
        // A change at once and a strike behind it, or the other way round: change comes first.
        hints(ground, "r=c*a+b", 2, 0, 2, 2, NONE);
        hints(ground, "r=c*d+b", 3, 0, 0, 2, 'a');
        hints(ground, "r=(a+b)", 2, 0, 2, 2, NONE);
        hints(ground, "a=1;r=a+b", 4, 0, 2, 0, NONE);
        hints(ground, "r=a+b;a=1", 4, 0, 2, 5, NONE);
        PracticeGround other = groundOf("a=0;r=a");
        hints(other, "r=a", 4, 0, 1, 0, 'a');
        hints(other, "a=0", 4, 0, 1, 3, ';');
        hints(other, "a=5;r=a", 1, 0, 0, 2, 1000);
        hints(other, "a=00;r=a", 0, 0, NONE, NONE, NONE);
        PracticeGround words = groundOf("if a{r=1}else{r=0}");
        hints(words, "while a{r=1};r=0", 4, 0, 0, 0, 257);
        hints(words, "if a{r=1}", 6, 0, 1, 7, 258);
        PracticeGround loops = groundOf("while a{r=1}");
        hints(loops, "if a{r=1}", 1, 0, 0, 0, 256);
        hints(loops, "r=1", 4, 0, 1, 0, 256);
        PracticeGround swapped = groundOf("r=a+b-b");
        hints(swapped, "r=a-b+b", 2, 0, 0, 3, '+');
        // Change would be one more; put and strike are as few, and put comes first.
        PracticeGround moved = groundOf("r=b-a-b-a-b");
        hints(moved, "r=a-b-a-b-a", 4, 0, 1, 2, 'b');
        // Only puts ahead and strikes behind are as few as 4.
        PracticeGround turned = groundOf("r=0*a+b");
        hints(turned, "r=a+b*0", 4, 0, 1, 2, 1000);
    }

    private static void longHints() {
        String way = "r=" + "0+".repeat(58) + "0";
        PracticeGround ground = groundOf(way);
        hints(ground, way, 0, 0, NONE, NONE, NONE);
        hints(ground, "r=" + "0+".repeat(57) + "0", 2, 0, 1, 117, '+');
        hints(ground, "r=0", 116, 0, 1, 3, '+');
        hints(ground, "a=" + "1-".repeat(58) + "1", 118, 0, 0, 0, 'r');
        hints(ground, "if a{b=c}", 119, 0, 0, 0, 'r');
        PracticeGround small = groundOf("r=0");
        hints(small, way, 116, 0, 2, 3, NONE);
        hints(small, "b=" + "1-".repeat(58) + "1", 118, 0, 0, 0, 'r');
    }

    private static void nearest() {
        PracticeGround ground = groundOf("r=a+b", "r=a*b", "r=0", "c=a;r=c");
        hints(ground, "r=a-b", 1, 0, 0, 3, '+');
        hints(ground, "r=b*b", 1, 1, 0, 2, 'a');
        hints(ground, "r=1", 1, 2, 0, 2, 1000);
        hints(ground, "r=a", 1, 2, 0, 2, 1000);
        hints(ground, "d=a;r=d", 2, 3, 0, 0, 'c');
        hints(ground, "c=a;r=c", 0, 3, NONE, NONE, NONE);
    }

    private static void shapes() {
        PracticeGround ground = groundOf("c=a;r=c");
        ways(ground, "d=a;r=d", 1);
        ways(ground, "c=a;r=d", 2);
        ways(ground, "d=a;r=c", 2);
        ways(ground, "a=a;r=a", 3);
        ways(ground, "b=a;r=b", 4);
        ways(ground, "c=b;r=c", 5);
        ways(ground, "d=c;r=d", 6);
        ways(ground, "c=d;r=c", 6);
        ways(ground, "  d = b ; r = d ", 6);
        ways(ground, "r=0", 7);
        ways(ground, "r=000", 7);
        ways(ground, "r=0*1", 8);
        ways(ground, "r=0*2", 9);
        hints(ground, "d=a;r=d", 1, 1, 0, 0, 'c');
        hints(ground, "d=a;r=c", 1, 0, 0, 0, 'c');
        hints(ground, "c=d;r=c", 1, 0, 0, 2, 'a');
    }

    private static void ways(PracticeGround ground, String text, int due) {
        Texts.read(ground, text);
        Check.same("\"" + text + "\" passes", ground.attempt(0, 0, false), 0);
        Check.same("ways with \"" + text + "\"", ground.look(0, 3), due);
    }

    private static void alike() {
        PracticeGround ground = new PracticeGround();
        ground.task(0, 0);
        ground.task(0, 0);
        ground.world(0, 0, 0, 0);
        ground.world(1, 0, 0, 0);
        String[] texts = {"c=a;r=c", "d=a;r=d", "r=a", "c=a;r=d", "d=a;r=c", "b=a;r=b", "c=a;r=c"};
        for (int i = 0; i < texts.length; i++) {
            Texts.read(ground, texts[i]);
            ground.attempt(0, i, i % 2 == 0);
        }
        String[] groups = {"x", "x", "y", "z", "z", "w", "x", "-"};
        for (int a = 0; a < 8; a++) {
            for (int b = 0; b < 8; b++) {
                boolean due = a != b && a < 7 && b < 7 && groups[a].equals(groups[b]);
                Check.same("alike " + a + " " + b, ground.alike(0, a, b, 0) ? 1 : 0, due ? 1 : 0);
            }
        }
        Check.yes("7 tokens", ground.alike(0, 0, 1, 7));
        Check.no("8 tokens", ground.alike(0, 0, 1, 8));
        Check.yes("-1 tokens", ground.alike(0, 0, 1, -1));
        Check.yes("least", ground.alike(0, 0, 1, Integer.MIN_VALUE));
        Check.no("greatest", ground.alike(0, 0, 1, Integer.MAX_VALUE));
        Check.no("another task", ground.alike(1, 0, 1, 0));
        Texts.read(ground, "r=a");
        ground.attempt(0, 0, false);
        Check.no("the first pass counts", ground.alike(0, 0, 2, 0));
        Check.yes("the first pass counts", ground.alike(0, 0, 1, 0));
        Texts.read(ground, "r=7");
        ground.attempt(0, 7, false);
        Check.no("not passed", ground.alike(0, 7, 2, 0));
        Texts.read(ground, "r=a");
        ground.attempt(0, 7, false);
        Check.yes("passed then", ground.alike(0, 7, 2, 0));
        Check.yes("the other way round", ground.alike(0, 2, 7, 3));
        Check.no("with itself", ground.alike(0, 7, 7, 0));
    }

    private static void refusals() {
        PracticeGround ground = new PracticeGround();
        Check.refused("no task", IndexOutOfBoundsException.class, () -> ground.hint(0, 0));
        Check.refused("no task", IndexOutOfBoundsException.class, () -> ground.alike(0, 0, 1, 0) ? 1 : 0);
        ground.task(0, 0);
        Check.refused("nothing", IllegalStateException.class, () -> ground.hint(0, 0));
        Check.refused("told first", IllegalStateException.class, () -> ground.hint(0, 5));
        Check.refused("told first", IndexOutOfBoundsException.class, () -> ground.hint(1, 5));
        Texts.read(ground, "r=0");
        for (int what = 0; what < 5; what++) {
            Check.same("without ways", ground.hint(0, what), NONE);
        }
        for (int wrong : new int[] {-1, 8, Integer.MIN_VALUE, Integer.MAX_VALUE}) {
            Check.refused("what", NoSuchElementException.class, () -> ground.hint(0, wrong));
            Check.refused("told first", IndexOutOfBoundsException.class, () -> ground.hint(wrong, wrong));
            Check.refused("task", IndexOutOfBoundsException.class, () -> ground.alike(wrong, 0, 1, 0) ? 1 : 0);
            Check.refused("learner", IndexOutOfBoundsException.class, () -> ground.alike(0, wrong, 1, 0) ? 1 : 0);
            Check.refused("learner", IndexOutOfBoundsException.class, () -> ground.alike(0, 1, wrong, 0) ? 1 : 0);
            Check.refused("learner", IndexOutOfBoundsException.class, () -> ground.alike(0, wrong, wrong, 0) ? 1 : 0);
        }
        Check.refused("what 5", NoSuchElementException.class, () -> ground.hint(0, 5));
        Check.same("a hint is no try", ground.count(3), 0);
    }
}
