import java.util.NoSuchElementException;

/** Promise 6: run. */
public final class RunTest {
    private static final int LEAST = Integer.MIN_VALUE;
    private static final int GREATEST = Integer.MAX_VALUE;

    public static void main(String[] args) {
        sums();
        goingRound();
        dividing();
        choices();
        loops();
        fuel();
        skills();
        refusals();
        Check.finish();
    }

    /** A RUN's four answers. */
    private static void runs(String text, int a, int b, int[] due) {
        PracticeGround ground = new PracticeGround();
        Texts.read(ground, text);
        for (int what = 0; what < 4; what++) {
            Check.same("\"" + text + "\" run(" + a + ", " + b + ", " + what + ")", ground.run(a, b, what), due[what]);
        }
    }

    private static void gives(String text, int a, int b, int r) {
        PracticeGround ground = new PracticeGround();
        Texts.read(ground, text);
        Check.same("\"" + text + "\" ends", ground.run(a, b, 0), 0);
        Check.same("\"" + text + "\" of " + a + ", " + b, ground.run(a, b, 1), r);
    }

    private static void sums() {
        gives("r=a", 7, 9, 7);
        gives("r=b", 7, 9, 9);
        gives("r=c+d+r", 7, 9, 0);
        gives("r=10-3-2", 0, 0, 5);
        gives("r=2+3*4", 0, 0, 14);
        gives("r=(2+3)*4", 0, 0, 20);
        gives("r=100/7*7", 0, 0, 98);
        gives("r=100/7/2", 0, 0, 7);
        gives("r=100%7*3", 0, 0, 6);
        gives("r=3*100%7", 0, 0, 6);
        gives("r=2-3*4-5", 0, 0, -15);
        gives("r=1<2", 0, 0, 1);
        gives("r=2<2", 0, 0, 0);
        gives("r=3<2", 0, 0, 0);
        gives("r=1+1<2+1", 0, 0, 1);
        gives("r=(1<2)+(2<3)", 0, 0, 2);
        gives("r=((3<2)<1)*5", 0, 0, 5);
        gives("a=1;r=a;a=2", 9, 9, 1);
        gives("c=a;d=b;a=d;b=c;r=a*10+b", 3, 4, 43);
        gives("r=000012", 0, 0, 12);
        gives("r=1;r=r+r;r=r+r", 0, 0, 4);
        gives("r=a<b", -5, 3, 1);
        gives("r=a<b", LEAST, GREATEST, 1);
        gives("r=a<b", GREATEST, LEAST, 0);
        gives("r=((((((((((a))))))))))", 12, 0, 12);
        gives("r=1<(2*(3+(4%(5-(1<(2*(3+(4%(5-(1))))))))))", 0, 0, 1);
        gives("a=5", 0, 0, 0);
    }

    private static void goingRound() {
        gives("r=a+b", GREATEST, 1, LEAST);
        gives("r=a-b", LEAST, 1, GREATEST);
        gives("r=a*b", 65536, 65536, 0);
        gives("r=a*b", GREATEST, GREATEST, 1);
        gives("r=0-a", LEAST, 0, LEAST);
    }

    private static void dividing() {
        gives("r=a/b", 7, 2, 3);
        gives("r=a/b", -7, 2, -3);
        gives("r=a/b", 7, -2, -3);
        gives("r=a/b", -7, -2, 3);
        gives("r=a%b", 7, 2, 1);
        gives("r=a%b", -7, 2, -1);
        gives("r=a%b", 7, -2, 1);
        gives("r=a%b", -7, -2, -1);
        gives("r=a/b", LEAST, -1, LEAST);
        gives("r=a%b", LEAST, -1, 0);
        gives("r=a/b", 0, 5, 0);
        runs("r=5;r=a/b;r=6", 1, 0, new int[] {1, 5, 2, 9});
        runs("r=5;r=a%b;r=6", 1, 0, new int[] {1, 5, 2, 9});
        // What would be worked out behind the division is not.
        runs("r=1+2/0*3<4", 0, 0, new int[] {1, 0, 1, 9});
        runs("r=1*2/(3-3)", 0, 0, new int[] {1, 0, 1, 1 | 2 | 4 | 8});
        runs("if 1/0{r=1}else{r=2}", 0, 0, new int[] {1, 0, 1, 32 | 8});
        runs("while 1%0{r=1}", 0, 0, new int[] {1, 0, 1, 64 | 8});
    }

    private static void choices() {
        gives("if a{r=1}else{r=2}", 1, 0, 1);
        gives("if a{r=1}else{r=2}", -1, 0, 1);
        gives("if a{r=1}else{r=2}", LEAST, 0, 1);
        gives("if a{r=1}else{r=2}", 0, 0, 2);
        gives("if a{r=1}", 0, 0, 0);
        gives("if a{r=1};r=r+5", 0, 0, 5);
        gives("if a{r=1};r=r+5", 1, 0, 6);
        gives("if a{if b{r=1}else{r=2}}else{if b{r=3}else{r=4}}", 1, 1, 1);
        gives("if a{if b{r=1}else{r=2}}else{if b{r=3}else{r=4}}", 1, 0, 2);
        gives("if a{if b{r=1}else{r=2}}else{if b{r=3}else{r=4}}", 0, 1, 3);
        gives("if a{if b{r=1}else{r=2}}else{if b{r=3}else{r=4}}", 0, 0, 4);
        gives("if a{if b{r=1}}else{r=2};r=r+10", 1, 0, 10);
        runs("if a{r=1;r=2}else{r=3}", 1, 0, new int[] {0, 2, 3, 33});
        runs("if a{r=1;r=2}else{r=3}", 0, 0, new int[] {0, 3, 2, 33});
        runs("if a{r=1}", 0, 0, new int[] {0, 0, 1, 32});
    }

    private static void loops() {
        runs("while r<a{r=r+1}", 5, 0, new int[] {0, 5, 11, 1 | 2 | 16 | 64});
        runs("while a{a=a-1;r=r+b}", 3, 4, new int[] {0, 12, 10, 1 | 2 | 64});
        runs("while a{r=1}", 0, 4, new int[] {0, 0, 1, 64});
        gives("c=1;r=1;while c<a+1{r=r*c;c=c+1}", 5, 0, 120);
        gives("while b{c=a%b;a=b;b=c};r=a", 84, 36, 12);
        gives("while a{while b{r=r+1;b=b-1};a=a-1};r=r+1", 2, 3, 4);
        gives("while a{if a%2{r=r+a}else{r=r-1};a=a-1}", 5, 0, 7);
    }

    private static void fuel() {
        runs("while 1{r=r+1}", 0, 0, new int[] {2, 500, 1000, 67});
        // 2 a turn, and the last asking: 999 and 1001.
        runs("while r<a{r=r+1}", 499, 0, new int[] {0, 499, 999, 83});
        runs("while r<a{r=r+1}", 500, 0, new int[] {2, 500, 1000, 83});
        // With one DO ahead: 1000 just goes.
        runs("c=1;while r<a{r=r+1}", 499, 0, new int[] {0, 499, 1000, 83});
        runs("c=1;while r<a{r=r+1};c=2", 499, 0, new int[] {2, 499, 1000, 83});
        // What would be the 1001st step shows nothing.
        runs("c=1;while r<a{r=r+1};if 1{r=0}", 499, 0, new int[] {2, 499, 1000, 83});
        runs("c=1;while r<a{r=r+1};while 1{r=0}", 499, 0, new int[] {2, 499, 1000, 83});
        runs("c=1;while r<a{r=r+1};if 1/0{r=0}", 499, 0, new int[] {2, 499, 1000, 83});
        runs("while 1{if 0{r=1}}", 0, 0, new int[] {2, 0, 1000, 96});
        runs("while 1{while 0{r=1}}", 0, 0, new int[] {2, 0, 1000, 192});
        runs("while 1{while 1{r=r+1}}", 0, 0, new int[] {2, 499, 1000, 1 | 2 | 64 | 128});
        // The dearest step: a long asking a thousand times.
        runs("while 1{r=" + "1+".repeat(54) + "r}", 0, 0, new int[] {2, 500 * 54, 1000, 67});
    }

    private static void skills() {
        shows("r=a", 1);
        shows("r=a+b", 1 | 2);
        shows("r=a-b", 1 | 2);
        shows("r=a*b", 1 | 4);
        shows("r=a/1", 1 | 8);
        shows("r=a%1", 1 | 8);
        shows("r=a<b", 1 | 16);
        shows("if 1{r=1}", 1 | 32);
        shows("if 0{r=1}", 32);
        shows("if 0{r=1+2*3/4<5}", 32);
        shows("if 1{r=1}else{r=1+2*3/4<5}", 33);
        shows("while 0{r=1}", 64);
        shows("while 0{while 0{r=1}}", 64);
        shows("c=1;while c{c=0;while 0{r=1}}", 1 | 64 | 128);
        shows("c=1;while c{c=0;if 1{while 0{r=1}}}", 1 | 32 | 64 | 128);
        shows("c=1;while c{c=0;if 0{r=1}else{while 0{r=1}}}", 1 | 32 | 64 | 128);
        shows("c=1;while c{c=0;if 0{while 0{r=1}}}", 1 | 32 | 64);
        shows("if 1{while 0{r=1}}", 32 | 64);
        shows("c=1;while c{c=0};while 0{r=1}", 1 | 64);
        shows("r=(1)", 1);
    }

    private static void shows(String text, int due) {
        PracticeGround ground = new PracticeGround();
        Texts.read(ground, text);
        Check.same("\"" + text + "\" shows", ground.run(3, 4, 3), due);
    }

    private static void refusals() {
        PracticeGround ground = new PracticeGround();
        Check.refused("nothing to run", IllegalStateException.class, () -> ground.run(0, 0, 0));
        Check.refused("told first", IllegalStateException.class, () -> ground.run(0, 0, 9));
        Texts.wrong(ground, "r", 1);
        Check.refused("still nothing", IllegalStateException.class, () -> ground.run(0, 0, 0));
        Texts.read(ground, "r=1");
        for (int what : new int[] {-1, 4, LEAST, GREATEST}) {
            Check.refused("what " + what, NoSuchElementException.class, () -> ground.run(0, 0, what));
        }
        Check.same("a run is no try", ground.count(3), 0);
        Texts.read(ground, "r=r+c+d+a;c=5;d=6;a=7");
        Check.same("first run", ground.run(1, 0, 1), 1);
        Check.same("a run leaves nothing behind", ground.run(1, 0, 1), 1);
    }
}
