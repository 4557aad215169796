import java.util.NoSuchElementException;

/** Promise 6: run, with what a RUN is. Each test is of one boundary that the document names. */
public final class Promise06RunTest {
    private static final int LEAST = Integer.MIN_VALUE;
    private static final int GREATEST = Integer.MAX_VALUE;
    private static final int DONE = 0;
    private static final int BY_ZERO = 1;
    private static final int DRY = 2;

    public static void main(String[] args) {
        Check.all(Promise06RunTest.class);
    }

    private static void gives(String text, int a, int b, int r) {
        PracticeGround ground = new PracticeGround();
        Texts.read(ground, text);
        Check.same("\"" + text + "\" ends", ground.run(a, b, 0), DONE);
        Check.same("\"" + text + "\" of " + a + ", " + b, ground.run(a, b, 1), r);
    }

    private static void runs(String text, int a, int ending, int r, int steps, int skills) {
        PracticeGround ground = new PracticeGround();
        Texts.read(ground, text);
        Check.same("\"" + text + "\" ends", ground.run(a, 0, 0), ending);
        Check.same("\"" + text + "\" r", ground.run(a, 0, 1), r);
        Check.same("\"" + text + "\" steps", ground.run(a, 0, 2), steps);
        Check.same("\"" + text + "\" skills", ground.run(a, 0, 3), skills);
    }

    private static void shows(String text, int skills) {
        PracticeGround ground = new PracticeGround();
        Texts.read(ground, text);
        Check.same("\"" + text + "\" shows", ground.run(3, 4, 3), skills);
    }

    private static void steps(String text, int a, int due) {
        PracticeGround ground = new PracticeGround();
        Texts.read(ground, text);
        Check.same("\"" + text + "\" steps", ground.run(a, 0, 2), due);
    }

    /** "(c, d, r are 0)" */
    static void cDAndRBeginAt0() {
        gives("r=c", 7, 8, 0);
        gives("r=d", 7, 8, 0);
        gives("r=r", 7, 8, 0);
        gives("c=1", 7, 8, 0);
    }

    static void aRunLeavesNothingToTheNext() {
        PracticeGround ground = new PracticeGround();
        Texts.read(ground, "r=r+c+d+a+b;a=9;b=9;c=9;d=9");
        Check.same("first", ground.run(1, 2, 1), 3);
        Check.same("second", ground.run(1, 2, 1), 3);
        Check.same("steps", ground.run(1, 2, 2), 5);
        Check.same("skills", ground.run(1, 2, 3), 3);
        Texts.read(ground, "r=a/b");
        Check.same("by 0", ground.run(1, 0, 0), BY_ZERO);
        Check.same("then done", ground.run(1, 1, 0), DONE);
        Texts.read(ground, "while a{r=r+1}");
        Check.same("dry", ground.run(1, 0, 0), DRY);
        Check.same("then done", ground.run(0, 0, 0), DONE);
        Check.same("then done", ground.run(0, 0, 2), 1);
    }

    static void skillsOfARunAreNotThoseOfTheNext() {
        PracticeGround ground = new PracticeGround();
        Texts.read(ground, "if a{r=1*2}");
        Check.same("first", ground.run(1, 0, 3), 1 | 4 | 32);
        Check.same("second", ground.run(0, 0, 3), 32);
        Texts.read(ground, "while b{b=0}");
        Check.same("of another program", ground.run(0, 0, 3), 64);
    }

    /** What stood open as a division by 0 ended a RUN is gone for good. */
    static void manyRunsThatEndWithinAnExprLeaveNothing() {
        PracticeGround ground = new PracticeGround();
        Texts.read(ground, "r=" + "1+(2*(".repeat(5) + "a/b" + "))".repeat(5));
        for (int i = 0; i < 200; i++) {
            Check.same("by 0", ground.run(6, 0, 0), BY_ZERO);
        }
        Check.same("done", ground.run(6, 3, 0), DONE);
        Check.same("r", ground.run(6, 3, 1), 95);
    }

    static void aAndBAreTold() {
        for (int each : new int[] {LEAST, -1, 0, 1, GREATEST}) {
            gives("r=a", each, 5, each);
            gives("r=b", 5, each, each);
        }
    }

    /** "numbers of 32 bits, going round" */
    static void plusGoesRound() {
        gives("r=a+b", GREATEST, 0, GREATEST);
        gives("r=a+b", GREATEST, 1, LEAST);
        gives("r=a+b", LEAST, -1, GREATEST);
        gives("r=a+b", LEAST, LEAST, 0);
    }

    static void minusGoesRound() {
        gives("r=a-b", LEAST, 0, LEAST);
        gives("r=a-b", LEAST, 1, GREATEST);
        gives("r=a-b", GREATEST, -1, LEAST);
        gives("r=0-a", LEAST, 0, LEAST);
    }

    static void timesGoesRound() {
        gives("r=a*b", 46340, 46340, 2147395600);
        gives("r=a*b", 46341, 46341, -2147479015);
        gives("r=a*b", 65536, 65536, 0);
        gives("r=a*b", LEAST, -1, LEAST);
        gives("r=a*b", GREATEST, GREATEST, 1);
        gives("r=999999*999999", 0, 0, (int) (999999L * 999999L));
    }

    /** "/ and % as ever toward 0" */
    static void dividingGoesToward0() {
        int[][] due = {{7, 2, 3, 1}, {-7, 2, -3, -1}, {7, -2, -3, 1}, {-7, -2, 3, -1}, {1, 2, 0, 1}, {-1, 2, 0, -1},
            {1, -2, 0, 1}, {0, -5, 0, 0}, {6, 3, 2, 0}, {-6, 3, -2, 0}, {GREATEST, LEAST, 0, GREATEST},
            {LEAST, GREATEST, -1, -1}, {LEAST, 1, LEAST, 0}, {LEAST, LEAST, 1, 0}, {GREATEST, -1, -GREATEST, 0}};
        for (int[] each : due) {
            gives("r=a/b", each[0], each[1], each[2]);
            gives("r=a%b", each[0], each[1], each[3]);
        }
    }

    /** "the least number by - 1 is the least number" */
    static void theLeastByMinus1IsTheLeast() {
        gives("r=a/b", LEAST, -1, LEAST);
        gives("r=a/b", LEAST + 1, -1, GREATEST);
    }

    /** "what is left, 0" */
    static void ofTheLeastByMinus1Is0Left() {
        gives("r=5;r=a%b", LEAST, -1, 0);
    }

    /** "< is 1 or 0" */
    static void lessIs1Or0() {
        gives("r=a<b", 2, 3, 1);
        gives("r=5;r=a<b", 3, 3, 0);
        gives("r=5;r=a<b", 4, 3, 0);
        gives("r=a<b", -1, 0, 1);
        gives("r=a<b", LEAST, GREATEST, 1);
        gives("r=5;r=a<b", GREATEST, LEAST, 0);
    }

    /** "+ - and * / % go from the left" */
    static void equalSignsGoFromTheLeft() {
        gives("r=10-3-2", 0, 0, 5);
        gives("r=10-3+2", 0, 0, 9);
        gives("r=100/7/2", 0, 0, 7);
        gives("r=100/7*7", 0, 0, 98);
        gives("r=7*100/8", 0, 0, 87);
        gives("r=100%7*3", 0, 0, 6);
        gives("r=3*100%7", 0, 0, 6);
        gives("r=100/30%2", 0, 0, 1);
    }

    static void timesBindsTighterThanPlusAndPlusThanLess() {
        gives("r=2+3*4", 0, 0, 14);
        gives("r=2*3+4", 0, 0, 10);
        gives("r=20-9/3", 0, 0, 17);
        gives("r=20-9%5", 0, 0, 16);
        gives("r=1+1<2", 0, 0, 0);
        gives("r=1<1+1", 0, 0, 1);
        gives("r=(1<1)+1", 0, 0, 1);
    }

    /** "if does its BLOCK if EXPR is not 0" */
    static void ifDoesItsBlockIfNot0() {
        for (int each : new int[] {LEAST, -1, 1, GREATEST}) {
            gives("if a{r=5}", each, 0, 5);
            gives("if a{r=5}else{r=6}", each, 0, 5);
        }
        gives("if a{r=5}", 0, 0, 0);
    }

    /** "else that of else, if there is one" */
    static void elseDoesItsBlockIf0() {
        gives("if a{r=5}else{r=6}", 0, 0, 6);
        gives("r=7;if a{r=5};r=r+1", 0, 0, 8);
        gives("if a{if b{r=1}}else{r=2}", 1, 0, 0);
        gives("if a{if b{r=1}}else{r=2}", 0, 1, 2);
        gives("if a{if b{r=1}else{r=3}}", 1, 0, 3);
    }

    /** "while as long as it is not 0" */
    static void whileGoesOnUntil0() {
        gives("while a{r=r+1;a=a-1}", 0, 0, 0);
        gives("while a{r=r+1;a=a-1}", 1, 0, 1);
        gives("while a{r=r+1;a=a+1}", -3, 0, 3);
        gives("while a{r=r+1;a=a+a}", LEAST, 0, 1);
    }

    /** "STEPS: one for each DO that is begun of = and if, and for each asking of a while" */
    static void everyBegunDoIsAStep() {
        steps("r=1", 0, 1);
        steps("r=1;r=2;r=3", 0, 3);
        steps("r=((1+2)*3<4)", 0, 1);
        steps("if a{r=1}", 0, 1);
        steps("if a{r=1}", 1, 2);
        steps("if a{r=1;r=2}else{r=1;r=2;r=3}", 1, 3);
        steps("if a{r=1;r=2}else{r=1;r=2;r=3}", 0, 4);
    }

    static void everyAskingIsAStep() {
        steps("while a{a=a-1}", 0, 1);
        steps("while a{a=a-1}", 1, 3);
        steps("while a{a=a-1}", 2, 5);
        steps("while a{a=a-1;b=1;while b{b=b-1}}", 1, 7);
    }

    /** "1 by a division by 0" */
    static void aDivisionBy0EndsIt() {
        runs("r=5;r=a/0;r=6", 9, BY_ZERO, 5, 2, 1 | 8);
        runs("r=5;r=a%0;r=6", 9, BY_ZERO, 5, 2, 1 | 8);
        runs("r=0/0", 0, BY_ZERO, 0, 1, 1 | 8);
        runs("r=a/(a-a)", LEAST, BY_ZERO, 0, 1, 1 | 2 | 8);
    }

    static void aDivisionThatIsNotReachedDoesNot() {
        runs("if a{r=1/0}else{r=2}", 0, DONE, 2, 2, 1 | 32);
        runs("while a{r=1/0}", 0, DONE, 0, 1, 64);
    }

    static void aDivisionBy0InAnAskingEndsIt() {
        runs("r=3;if 1/0{r=1}else{r=2}", 0, BY_ZERO, 3, 2, 1 | 8 | 32);
        runs("r=3;while 1%0{r=1}", 0, BY_ZERO, 3, 2, 1 | 8 | 64);
    }

    /** "2 DRY: more than 1000 STEPS would be needed": 1000 are not more. */
    static void a1000thStepIsTaken() {
        runs("c=1;while r<a{r=r+1}", 499, DONE, 499, 1000, 1 | 2 | 16 | 64);
        runs("while r<a{r=r+1};d=1", 499, DONE, 499, 1000, 1 | 2 | 16 | 64);
        runs("while r<a{r=r+1};if 0{d=1}", 499, DONE, 499, 1000, 1 | 2 | 16 | 32 | 64);
        runs("while r<a{r=r+1}", 499, DONE, 499, 999, 1 | 2 | 16 | 64);
    }

    /** "(it ends ahead of the 1001st)": an asking, an =, an if, a while. */
    static void a1001stStepIsNot() {
        runs("while r<a{r=r+1}", 500, DRY, 500, 1000, 1 | 2 | 16 | 64);
        runs("c=1;while r<a{r=r+1};r=7", 499, DRY, 499, 1000, 1 | 2 | 16 | 64);
        runs("c=1;while r<a{r=r+1};if 1{r=7}", 499, DRY, 499, 1000, 1 | 2 | 16 | 64);
        runs("c=1;while r<a{r=r+1};while 0{r=7}", 499, DRY, 499, 1000, 1 | 2 | 16 | 64);
    }

    static void whatTheDryStepWouldShowIsNotShown() {
        runs("while 1{while 0{r=1}}", 0, DRY, 0, 1000, 64 | 128);
        runs("c=1;while r<a{r=r+1};r=2*3", 499, DRY, 499, 1000, 1 | 2 | 16 | 64);
        runs("d=a-1;while a{a=a-1};d=1;while d{while 0{r=1}}", 498, DRY, 0, 1000, 1 | 2 | 64);
        runs("while a{a=a-1};if 1{r=2}", 499, DRY, 0, 1000, 1 | 2 | 32 | 64);
    }

    static void aDivisionBy0InThe1000thStepEndsItSo() {
        runs("while r<a{r=r+1};r=1/0", 499, BY_ZERO, 499, 1000, 1 | 2 | 8 | 16 | 64);
    }

    static void aDivisionBy0InThe1001stStepIsNotReached() {
        runs("c=1;while r<a{r=r+1};r=1/0", 499, DRY, 499, 1000, 1 | 2 | 16 | 64);
    }

    static void anEndlessLoopIsDry() {
        runs("while 1{r=r+1}", 0, DRY, 500, 1000, 1 | 2 | 64);
        runs("while 1{while 1{r=r+1}}", 0, DRY, 499, 1000, 1 | 2 | 64 | 128);
        runs("while 1{while 1{while 1{while 1{r=1}}}}", 0, DRY, 1, 1000, 1 | 64 | 128);
        runs("while 1{r=r+" + "1+".repeat(52) + "1}", 0, DRY, 500 * 53, 1000, 1 | 2 | 64);
        runs("while " + "0+".repeat(54) + "1{r=r+1}", 0, DRY, 500, 1000, 1 | 2 | 64);
    }

    /** "1 an = was begun" */
    static void skill0IsAnAssignmentThatWasBegun() {
        shows("r=a", 1);
        shows("r=1/0", 1 | 8);
        shows("if 0{r=a}", 32);
    }

    /** "2 + or - was worked out" */
    static void skill1IsPlusOrMinus() {
        shows("r=a+b", 1 | 2);
        shows("r=a-b", 1 | 2);
        shows("r=1/0+1", 1 | 8);
        shows("r=1+1/0", 1 | 8);
        shows("r=1-1/0", 1 | 8);
    }

    /** "4 *" */
    static void skill2IsTimes() {
        shows("r=a*b", 1 | 4);
        shows("r=1/0*2", 1 | 8);
        shows("r=2*(1/0)", 1 | 8);
    }

    /** "8 / or %" */
    static void skill3IsDividing() {
        shows("r=a/b", 1 | 8);
        shows("r=a%b", 1 | 8);
    }

    /** "(Division by 0 counts as worked out.)" */
    static void aDivisionBy0IsWorkedOut() {
        shows("r=a/0", 1 | 8);
        shows("r=a%0", 1 | 8);
    }

    /** "16 <" */
    static void skill4IsLess() {
        shows("r=a<b", 1 | 16);
        shows("r=b<a", 1 | 16);
        shows("r=1<1/0", 1 | 8);
        shows("r=1/0<1", 1 | 8);
    }

    /** Each sign shows its own SKILL alone, also where no = is begun. */
    static void signsShowTheirSkillAlone() {
        shows("if a+b-7{r=1}", 2 | 32);
        shows("if 0*1{r=1}", 4 | 32);
        shows("if 0/1{r=1}", 8 | 32);
        shows("if 0%1{r=1}", 8 | 32);
        shows("if 1<0{r=1}", 16 | 32);
        shows("while 1-1{r=1}", 2 | 64);
        shows("while 0*1{r=1}", 4 | 64);
        shows("while 0%1{r=1}", 8 | 64);
        shows("while 1<0{r=1}", 16 | 64);
    }

    /** "32 an if was begun" */
    static void skill5IsAnIfThatWasBegun() {
        shows("if 1{r=1}", 1 | 32);
        shows("if 0{r=1}", 32);
        shows("if 1/0{r=1}", 8 | 32);
        shows("if 0{if 1{r=1}}else{r=1}", 1 | 32);
        shows("while 0{if 1{r=1}}", 64);
    }

    /** "64 a while was asked" */
    static void skill6IsAWhileThatWasAsked() {
        shows("while 0{r=1}", 64);
        shows("while 1/0{r=1}", 8 | 64);
        shows("if 0{while 0{r=1}}", 32);
    }

    /** "128 a while that stands within a while was asked" */
    static void skill7IsAWhileWithinAWhile() {
        shows("c=1;while c{c=0;while 0{r=1}}", 1 | 64 | 128);
        shows("while 0{while 0{r=1}}", 64);
        shows("c=1;while c{c=0;if 0{while 0{r=1}}}", 1 | 32 | 64);
        shows("c=1;while c{c=0;if 1{while 0{r=1}}}", 1 | 32 | 64 | 128);
        shows("c=1;while c{c=0;if 0{r=1}else{while 0{r=1}}}", 1 | 32 | 64 | 128);
    }

    static void aWhileBehindOrInAnIfIsNotWithinAWhile() {
        shows("c=1;while c{c=0};while 0{r=1}", 1 | 64);
        shows("if 1{while 0{r=1}}", 32 | 64);
        shows("while 0{r=1};if 1{while 0{r=1}}", 32 | 64);
    }

    /** "what 0 how it ended .. 3 SKILLS shown. NoSuchElementException: another what." */
    static void anotherWhatIsRefused() {
        for (int what : new int[] {-1, 4, 5, 256, LEAST, GREATEST}) {
            Scene.FULL.leaves("run(1, 2, " + what + ")", "throws.NoSuchElementException",
                    ground -> ground.run(1, 2, what));
        }
    }

    /** "IllegalStateException: there is nothing on THE SLATE", told ahead of NoSuchElementException. */
    static void withoutAProgramItIsRefused() {
        for (int what : new int[] {0, 3, 4, -1}) {
            Scene.BARE.leaves("run(1, 2, " + what + ")", "throws.IllegalStateException", ground -> ground.run(1, 2, what));
            Scene.BEGUN.leaves("run(1, 2, " + what + ")", "throws.IllegalStateException", ground -> ground.run(1, 2, what));
        }
    }

    static void aWhatIsRefusedAlsoIfTheRunIsNotDone() {
        PracticeGround ground = new PracticeGround();
        Texts.read(ground, "r=1/0");
        Check.refused("run(0, 0, 4)", NoSuchElementException.class, () -> ground.run(0, 0, 4));
        Texts.read(ground, "while 1{r=1}");
        Check.refused("run(0, 0, -1)", NoSuchElementException.class, () -> ground.run(0, 0, -1));
    }

    static void aRunChangesNothing() {
        Scene.FULL.leaves("run(5, 3, 1)", "2", ground -> ground.run(5, 3, 1));
    }

    /** "THE SLATE: the program that was read last" */
    static void theProgramThatWasReadLastIsRun() {
        PracticeGround ground = new PracticeGround();
        Texts.read(ground, "r=1");
        Texts.read(ground, "r=2");
        Texts.wrong(ground, "r=3!", 3);
        Check.same("run", ground.run(0, 0, 1), 2);
    }

    /** The deepest and the longest program are run too. */
    static void theDeepestAndTheLongestAreRun() {
        gives("r=" + "(1+".repeat(10) + "1" + ")".repeat(10), 0, 0, 11);
        gives("r=" + "(1-".repeat(10) + "1" + ")".repeat(10), 0, 0, 1);
        gives("if 1{".repeat(10) + "r=5" + "}".repeat(10), 0, 0, 5);
        gives("r=1<(" + "2+(".repeat(9) + "3" + ")".repeat(10), 0, 0, 1);
        gives("r=" + "1+".repeat(58) + "1", 0, 0, 59);
        gives("r=r+1;".repeat(19) + "r=r+1", 0, 0, 20);
        gives("r=" + "1+2*(".repeat(10) + "3" + ")".repeat(10), 0, 0, 3 * 1024 + 1023);
    }
}
