/** Promise 15: hint, with what CHANGES, NEAREST and THE HINT are. Each test is of one boundary of the document. */
public final class Promise15HintTest {
    private static final int NONE = PracticeGround.NONE;
    private static final int[] NO_WHAT = {-1, 5, 6, Integer.MIN_VALUE, Integer.MAX_VALUE};
    private static final int CHANGE = 0;
    private static final int PUT = 1;
    private static final int STRIKE = 2;

    public static void main(String[] args) {
        Check.all(Promise15HintTest.class);
    }

    /** A TASK of which these are RIGHT WAYS, as r is 0 for 0 and 0. */
    private static PracticeGround groundOf(String... ways) {
        PracticeGround ground = new PracticeGround();
        ground.task(0, 0);
        ground.world(0, 0, 0, 0);
        for (int i = 0; i < ways.length; i++) {
            Texts.read(ground, ways[i]);
            Check.same("\"" + ways[i] + "\" passes", ground.attempt(0, 0, false), 0);
            Check.same("ways", ground.look(0, 3), i + 1);
        }
        return ground;
    }

    private static void hints(PracticeGround ground, String slate, int... due) {
        Texts.read(ground, slate);
        for (int what = 0; what <= 4; what++) {
            Check.same("\"" + slate + "\" hint(0, " + what + ")", ground.hint(0, what), due[what]);
        }
    }

    /** "all NONE without RIGHT WAYS" */
    static void withoutWaysAllAreNone() {
        hints(groundOf(), "r=0", NONE, NONE, NONE, NONE, NONE);
        PracticeGround ground = new PracticeGround();
        ground.task(0, 0);
        hints(ground, "r=0", NONE, NONE, NONE, NONE, NONE);
    }

    static void aTryThatFailedMakesNoWay() {
        PracticeGround ground = groundOf();
        Texts.read(ground, "r=1");
        ground.attempt(0, 0, false);
        hints(ground, "r=1", NONE, NONE, NONE, NONE, NONE);
    }

    /** "2 to 4 NONE, if there are no CHANGES" */
    static void withoutChanges2To4AreNone() {
        hints(groundOf("r=0"), "r=0", 0, 0, NONE, NONE, NONE);
        hints(groundOf("r=a", "r=0"), " r = 0 ", 0, 1, NONE, NONE, NONE);
    }

    static void ofOneShapeButOtherTokensThereAreChanges() {
        hints(groundOf("c=0;r=c"), "d=0;r=d", 2, 0, CHANGE, 0, 'c');
    }

    /** One CHANGE: a TOKEN that is changed, at the first and at the last place. */
    static void aChangedTokenIsOneChange() {
        hints(groundOf("r=a"), "r=b", 1, 0, CHANGE, 2, 'a');
        hints(groundOf("r=a"), "b=a", 1, 0, CHANGE, 0, 'r');
        hints(groundOf("r=a+b"), "r=a-b", 1, 0, CHANGE, 3, '+');
    }

    /** "1 put (ahead of that TOKEN)": ahead of the first. */
    static void putAheadOfAll() {
        hints(groundOf("b=0;r=0"), "r=0", 4, 0, PUT, 0, 'b');
        hints(groundOf("while a{r=0}"), "r=0", 4, 0, PUT, 0, 256);
    }

    /** "(its number of TOKENS: behind all)" */
    static void putBehindAll() {
        hints(groundOf("r=a+b"), "r=a", 2, 0, PUT, 3, '+');
        hints(groundOf("r=0;r=a"), "r=0", 4, 0, PUT, 3, ';');
    }

    static void putWithin() {
        hints(groundOf("r=a+b"), "r=b", 2, 0, PUT, 2, 'a');
    }

    /** "4 the TOKEN that should stand there (.. NONE: strike)" */
    static void strikeHasNoToken() {
        hints(groundOf("r=a"), "r=a+b", 2, 0, STRIKE, 3, NONE);
        hints(groundOf("r=b"), "r=a+b", 2, 0, STRIKE, 2, NONE);
        hints(groundOf("r=0"), "b=0;r=0", 4, 0, STRIKE, 0, NONE);
    }

    /** "the first of these that is of such a row: change, put, strike": change where put would be as good. */
    static void changeComesAheadOfPut() {
        hints(groundOf("r=a+b"), "r=c", 3, 0, CHANGE, 2, 'a');
    }

    static void changeComesAheadOfStrike() {
        hints(groundOf("r=a"), "r=c+d", 3, 0, CHANGE, 2, 'a');
    }

    static void putComesAheadOfStrike() {
        hints(groundOf("r=b-a-b-a-b"), "r=a-b-a-b-a", 4, 0, PUT, 2, 'b');
    }

    /** "that is of such a row": change is not taken where it makes a longer one. */
    static void putWhereAChangeWouldNotBeOfTheFewest() {
        hints(groundOf("r=a*b+c"), "r=b+c", 2, 0, PUT, 2, 'a');
    }

    static void strikeWhereNeitherChangeNorPutWould() {
        hints(groundOf("r=b+c"), "r=a*b+c", 2, 0, STRIKE, 2, NONE);
    }

    /** "TOKENS that are the same are passed by if that leaves as few as can be": of several places the last. */
    static void sameTokensArePassedBy() {
        hints(groundOf("r=a+a+a"), "r=a+a", 2, 0, PUT, 5, '+');
        hints(groundOf("r=a+a"), "r=a+a+a", 2, 0, STRIKE, 5, NONE);
        hints(groundOf("r=0;r=0;r=0"), "r=0;r=0", 4, 0, PUT, 7, ';');
    }

    /** "NEAREST .. that of the least CHANGES" */
    static void theLeastChangesAreNearest() {
        PracticeGround ground = groundOf("r=a+b", "r=a*b", "r=0");
        hints(ground, "r=a+1", 1, 0, CHANGE, 4, 'b');
        hints(ground, "r=a*1", 1, 1, CHANGE, 4, 'b');
        hints(ground, "r=1", 1, 2, CHANGE, 2, 1000);
        hints(ground, "r=a*b", 0, 1, NONE, NONE, NONE);
    }

    /** "of several the one that came first" */
    static void ofSeveralTheFirstIsNearest() {
        hints(groundOf("r=a", "r=b", "r=c"), "r=1", 1, 0, CHANGE, 2, 'a');
        hints(groundOf("r=b+b", "r=b", "r=c"), "r=1", 1, 1, CHANGE, 2, 'b');
        hints(groundOf("r=a+b", "r=a*b"), "r=a-b", 1, 0, CHANGE, 3, '+');
        hints(groundOf("r=a*b", "r=a+b"), "r=a-b", 1, 0, CHANGE, 3, '*');
    }

    /** "its number among RIGHT WAYS": from 0 to 9. */
    static void theTenthWayMayBeNearest() {
        PracticeGround ground = groundOf("r=0*1", "r=0*2", "r=0*3", "r=0*4", "r=0*5", "r=0*6", "r=0*7", "r=0*8", "r=0*9",
                "while 0{r=0}");
        hints(ground, "while 1{r=0}", 1, 9, CHANGE, 1, 1000);
        hints(ground, "r=0*10", 1, 0, CHANGE, 4, 1001);
    }

    /** "a sign or VARIABLE its byte, while 256, if 257, else 258, a NUMBER 1000 and it" */
    static void everyTokenIsANumber() {
        hints(groundOf("if a{r=0}"), "while a{r=0}", 1, 0, CHANGE, 0, 257);
        hints(groundOf("while a{r=0}"), "if a{r=0}", 1, 0, CHANGE, 0, 256);
        hints(groundOf("if a{r=0}else{r=0}"), "if a{r=0}", 6, 0, PUT, 7, 258);
        hints(groundOf("r=0*999999"), "r=0*1", 1, 0, CHANGE, 4, 1000999);
        hints(groundOf("r=0*999999"), "r=1*999999", 1, 0, CHANGE, 2, 1000);
        hints(groundOf("r=0*000042"), "r=0*1", 1, 0, CHANGE, 4, 1042);
        for (char sign : "+-*%<".toCharArray()) {
            String way = sign == '<' ? "r=0<0" : sign == '%' ? "r=0%1" : "r=0" + sign + "0";
            hints(groundOf(way), way.replace(sign, '/'), 1, 0, CHANGE, 3, sign);
        }
        hints(groundOf("r=(0)"), "r=0", 2, 0, PUT, 2, '(');
        hints(groundOf("if a{r=0}"), "r=0", 4, 0, PUT, 0, 257);
    }

    /** A way that is farther off and came later has no say in the HINT. */
    static void otherWaysDoNotCount() {
        hints(groundOf("r=a+b", "r=b*b"), "r=a", 2, 0, PUT, 3, '+');
        hints(groundOf("r=a", "r=b*b"), "r=a+b", 2, 0, STRIKE, 3, NONE);
    }

    /** The longest programs: 119 TOKENS. */
    static void theLongestProgramsAreCompared() {
        String most = "r=" + "0+".repeat(58) + "0";
        hints(groundOf(most), most, 0, 0, NONE, NONE, NONE);
        hints(groundOf(most), "r=" + "0+".repeat(58) + "1", 1, 0, CHANGE, 118, 1000);
        hints(groundOf(most), "r=0", 116, 0, PUT, 3, '+');
        hints(groundOf("r=0"), most, 116, 0, STRIKE, 3, NONE);
        hints(groundOf(most), "r=" + "1-".repeat(58) + "1", 117, 0, CHANGE, 2, 1000);
        hints(groundOf(most), "b=" + "1-".repeat(58) + "1", 118, 0, CHANGE, 0, 'r');
    }

    /** NUMBERS are the same TOKEN if they are the same number. */
    static void zerosAheadMakeNoOtherToken() {
        hints(groundOf("r=0"), "r=000", 0, 0, NONE, NONE, NONE);
    }

    /** "RIGHT WAYS of a TASK": not those of another. */
    static void everyTaskHasItsOwn() {
        PracticeGround ground = groundOf("r=0");
        ground.task(0, 0);
        Check.same("hint(1, 0)", ground.hint(1, 0), NONE);
        Check.same("hint(0, 0)", ground.hint(0, 0), 0);
    }

    /** "IndexOutOfBoundsException: there is no such TASK" */
    static void noSuchTaskIsRefused() {
        for (int task : new int[] {-1, 10, Integer.MIN_VALUE, Integer.MAX_VALUE}) {
            Scene.FULL.leaves("hint(" + task + ", 0)", "throws.IndexOutOfBoundsException", ground -> ground.hint(task, 0));
        }
        Scene.BARE.leaves("hint(0, 0)", "throws.IndexOutOfBoundsException", ground -> ground.hint(0, 0));
        Scene.BEGUN.leaves("hint(2, 0)", "throws.IndexOutOfBoundsException", ground -> ground.hint(2, 0));
    }

    /** "IllegalStateException: there is nothing on THE SLATE" */
    static void withoutAProgramItIsRefused() {
        for (int what = 0; what <= 4; what++) {
            int each = what;
            Scene.BEGUN.leaves("hint(0, " + what + ")", "throws.IllegalStateException", ground -> ground.hint(0, each));
            Scene.BEGUN.leaves("hint(1, " + what + ")", "throws.IllegalStateException", ground -> ground.hint(1, each));
        }
    }

    /** "NoSuchElementException: another what": also without RIGHT WAYS. */
    static void anotherWhatIsRefused() {
        for (int what : NO_WHAT) {
            Scene.FULL.leaves("hint(0, " + what + ")", "throws.NoSuchElementException", ground -> ground.hint(0, what));
            Scene.FULL.leaves("hint(9, " + what + ")", "throws.NoSuchElementException", ground -> ground.hint(9, what));
        }
    }

    /** "Of several exceptions the one told first is thrown": no TASK, no program, no such what. */
    static void noSuchTaskComesAheadOfTheOthers() {
        for (int what : NO_WHAT) {
            Scene.BEGUN.leaves("hint(2, " + what + ")", "throws.IndexOutOfBoundsException",
                    ground -> ground.hint(2, what));
            Scene.FULL.leaves("hint(10, " + what + ")", "throws.IndexOutOfBoundsException",
                    ground -> ground.hint(10, what));
        }
    }

    static void noProgramComesAheadOfAnotherWhat() {
        for (int what : NO_WHAT) {
            Scene.BEGUN.leaves("hint(0, " + what + ")", "throws.IllegalStateException", ground -> ground.hint(0, what));
        }
    }

    static void askingChangesNothing() {
        Scene.FULL.leaves("hint(0, 0)", "1", ground -> ground.hint(0, 0));
        Scene.FULL.leaves("hint(0, 4)", "43", ground -> ground.hint(0, 4));
        Scene.FULL.leaves("hint(9, 0)", "-1", ground -> ground.hint(9, 0));
    }
}
