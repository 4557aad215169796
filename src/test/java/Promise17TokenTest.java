/** Promise 17: token. Each test is of one boundary that the document names. */
public final class Promise17TokenTest {
    private static final int NONE = PracticeGround.NONE;

    public static void main(String[] args) {
        Check.all(Promise17TokenTest.class);
    }

    /** "NONE if there is none such": nothing on THE SLATE. */
    static void withoutAProgramThereIsNone() {
        for (int i : new int[] {0, 1, -1, Integer.MIN_VALUE, Integer.MAX_VALUE}) {
            Scene.BARE.leaves("token(" + i + ")", "-1", ground -> ground.token(i));
            Scene.BEGUN.leaves("token(" + i + ")", "-1", ground -> ground.token(i));
        }
    }

    /** "NONE if there is none such": behind the last. */
    static void behindTheLastThereIsNone() {
        PracticeGround ground = new PracticeGround();
        Texts.read(ground, "r=7");
        Check.same("the last", ground.token(2), 1007);
        Check.same("behind it", ground.token(3), NONE);
        Check.same("far behind it", ground.token(Integer.MAX_VALUE), NONE);
        Texts.read(ground, "r=" + "1+".repeat(58) + "8");
        Check.same("the last of 119", ground.token(118), 1008);
        Check.same("behind it", ground.token(119), NONE);
        Check.same("behind it", ground.token(120), NONE);
        Check.same("behind it", ground.token(121), NONE);
    }

    /** "NONE if there is none such": ahead of the first. */
    static void aheadOfTheFirstThereIsNone() {
        PracticeGround ground = new PracticeGround();
        Texts.read(ground, "r=7");
        Check.same("the first", ground.token(0), 'r');
        Check.same("ahead of it", ground.token(-1), NONE);
        Check.same("far ahead of it", ground.token(Integer.MIN_VALUE), NONE);
    }

    /** "a sign or VARIABLE its byte" */
    static void signsAndVariablesAreTheirBytes() {
        String text = "r=(a+b)-c*d/r%a<b;if a{r=b};c=d";
        PracticeGround ground = new PracticeGround();
        Texts.read(ground, text.replace("if a", "if  a"));
        String due = "r=(a+b)-c*d/r%a<b;.a{r=b};c=d";
        Check.same("count(1)", ground.count(1), due.length());
        for (int i = 0; i < due.length(); i++) {
            Check.same("token(" + i + ")", ground.token(i), due.charAt(i) == '.' ? 257 : due.charAt(i));
        }
    }

    /** "while 256, if 257, else 258" */
    static void wordsAre256To258() {
        PracticeGround ground = new PracticeGround();
        Texts.read(ground, "while a{if b{r=1}else{r=2}}");
        Check.same("while", ground.token(0), 256);
        Check.same("if", ground.token(3), 257);
        Check.same("else", ground.token(10), 258);
    }

    /** "a NUMBER 1000 and it": the least and the greatest. */
    static void numbersAre1000AndThey() {
        PracticeGround ground = new PracticeGround();
        Texts.read(ground, "r=0+000000+1+000001+999999+099999");
        int[] due = {1000, 1000, 1001, 1001, 1000999, 100999};
        for (int i = 0; i < due.length; i++) {
            Check.same("token(" + (2 + 2 * i) + ")", ground.token(2 + 2 * i), due[i]);
        }
    }

    /** THE SLATE "stays" when a wrong text is read. */
    static void aWrongTextLeavesThem() {
        PracticeGround ground = new PracticeGround();
        Texts.read(ground, "r=a");
        Texts.wrong(ground, "b=c+!", 4);
        Check.same("token(0)", ground.token(0), 'r');
        Check.same("token(2)", ground.token(2), 'a');
        Check.same("token(3)", ground.token(3), NONE);
    }

    static void theProgramReadLastCounts() {
        PracticeGround ground = new PracticeGround();
        Texts.read(ground, "r=a+b");
        Texts.read(ground, "c=1");
        Check.same("token(0)", ground.token(0), 'c');
        Check.same("token(3)", ground.token(3), NONE);
    }

    static void askingChangesNothing() {
        Scene.FULL.leaves("token(0)", "114", ground -> ground.token(0));
        Scene.FULL.leaves("token(5)", "-1", ground -> ground.token(5));
        Scene.FULL.leaves("token(-1)", "-1", ground -> ground.token(-1));
    }
}
