/** Promise 5: fault, with what the first wrong byte is. Each test is of one boundary that the document names. */
public final class Promise05FaultTest {
    private static final int NONE = PracticeGround.NONE;

    public static void main(String[] args) {
        Check.all(Promise05FaultTest.class);
    }

    private static void wrong(String text, int at) {
        Texts.wrong(new PracticeGround(), text, at);
    }

    /** "NONE .. ahead of any" */
    static void noneAheadOfAnyRead() {
        PracticeGround ground = new PracticeGround();
        Check.same("new", ground.fault(), NONE);
        Texts.feed(ground, "!");
        Check.same("a wrong text that is not read yet", ground.fault(), NONE);
    }

    /** "NONE without one" */
    static void noneBehindARightRead() {
        PracticeGround ground = new PracticeGround();
        Texts.read(ground, "r=1");
        Check.same("fault()", ground.fault(), NONE);
    }

    /** "of the latest read()" */
    static void theLatestReadCounts() {
        PracticeGround ground = new PracticeGround();
        Texts.wrong(ground, "r=!", 2);
        Texts.wrong(ground, "!", 0);
        Texts.wrong(ground, "r=1 r", 4);
        Texts.right(ground, "r=1", 3);
        Check.same("a right one", ground.fault(), NONE);
        Texts.wrong(ground, "r!", 1);
    }

    static void itStaysUntilTheNextRead() {
        PracticeGround ground = new PracticeGround();
        Texts.read(ground, "r=1");
        Texts.wrong(ground, "r=!", 2);
        ground.feed(0, 0, 0, 0, 0);
        Check.same("behind feed", ground.fault(), 2);
        ground.end(3);
        Check.same("behind end", ground.fault(), 2);
        ground.run(0, 0, 0);
        Check.same("behind run", ground.fault(), 2);
        Check.same("asked again", ground.fault(), 2);
    }

    static void askingChangesNothing() {
        Scene.BARE.leaves("fault()", "-1", PracticeGround::fault);
        Scene.BEGUN.leaves("fault()", "2", PracticeGround::fault);
        Scene.FULL.leaves("fault()", "4", PracticeGround::fault);
    }

    /** "the begin of the first TOKEN that cannot stand there", not a byte within it or behind. */
    static void theBeginOfTheTokenCounts() {
        wrong("r=   while", 5);
        wrong("r=1   while a{r=1}", 6);
        wrong("r=1 123456", 4);
        wrong("if a{r=1}  else  else", 17);
        wrong("123=r", 0);
    }

    static void theFirstOfSeveralCounts() {
        wrong("r=! !", 2);
        wrong("r=1 2 !", 4);
        wrong("r 1234567", 2);
        wrong("r=1;e=1;f=1", 4);
        wrong("r=1234567 abc", 2);
        wrong("r=abc 1234567", 2);
    }

    /** "a NUMBER of more digits" */
    static void aNumberOf7DigitsIsWrongAtItsBegin() {
        wrong("r=1234567", 2);
        wrong("r=1+  0000000", 6);
        wrong("r=123456+1234567", 9);
        wrong("r=" + "1".repeat(398), 2);
        wrong("r=4294967297", 2);
        wrong("1234567", 0);
        wrong("r=a 1234567", 4);
    }

    /** "a word that is none" */
    static void aWordThatIsNoneIsWrongAtItsBegin() {
        wrong("r=abc", 2);
        wrong("  whilst a{r=1}", 2);
        wrong("if a{r=1} elsewhere", 10);
        wrong("r=1;whilea", 4);
        wrong("r=1;e=1", 4);
        wrong("r=1 then", 4);
        wrong("z".repeat(400), 0);
        wrong("r=elseif", 2);
    }

    /** "any other byte" */
    static void anyOtherByteIsWrongWhereverItStands() {
        for (int each = 0; each < 256; each++) {
            boolean other = "abcdefghijklmnopqrstuvwxyz0123456789=<+-*/%(){}; ".indexOf(each) < 0;
            if (other) {
                wrong((char) each + "", 0);
                wrong("r" + (char) each, 1);
                wrong("r=" + (char) each, 2);
                wrong("r=1" + (char) each, 3);
                wrong("r=1;" + (char) each, 4);
                wrong("if a{r=1}" + (char) each, 9);
            }
        }
    }

    /** "a 121st TOKEN": also one that could stand there. */
    static void a121stTokenIsWrongAtItsBegin() {
        String most = "r=" + "1+".repeat(59);
        wrong(most + "1", 120);
        wrong(most + "   1", 123);
        wrong(most + "(1)", 120);
        wrong(most + "1 ;!", 120);
    }

    static void a121stThatIsNoTokenIsWrongThereToo() {
        String most = "r=" + "1+".repeat(59);
        wrong(most + "  !", 122);
        wrong(most + " abc", 121);
        wrong(most + " 1234567", 121);
        wrong(most + " +", 121);
    }

    static void anEarlierWrongTokenComesFirst() {
        wrong("r=" + "1+".repeat(58) + "+1", 118);
        wrong("r=" + "1+".repeat(58) + "1 1 1", 120);
        wrong("r=" + "1+".repeat(58) + "1!", 119);
        wrong("r=" + "1+".repeat(58) + ")1", 118);
    }

    /** With 120 TOKENS a program never ends: "the text's length, if more must come". */
    static void behind120TokensMoreMustCome() {
        wrong("r=" + "1+".repeat(59), 120);
        wrong("r=" + "1+".repeat(59) + "   ", 123);
        wrong("r=" + "1+".repeat(58) + "1;", 120);
        wrong("if " + "1+".repeat(58) + "1{", 121);
        wrong("r=" + "(1)+".repeat(29) + "1 ;", 121);
    }

    /** "the ( .. that is an 11th one deep" */
    static void the11thParenthesisIsWrong() {
        wrong("r=" + "(".repeat(11) + "a" + ")".repeat(11), 12);
        wrong("r=" + "(".repeat(10) + "a+   (b", 17);
        wrong("if a{".repeat(10) + "r=1+(2", 54);
        wrong("while " + "(".repeat(11), 16);
    }

    /** "the .. { that is an 11th one deep" */
    static void the11thBraceIsWrong() {
        wrong("if a{".repeat(10) + "if a  {r=1", 56);
        wrong("while a{".repeat(10) + "while(1){r", 85);
        wrong("while a{".repeat(10) + "while 1{r", 87);
        wrong("if a{".repeat(9) + "if b{r=1}else{while c{r=1}}", 66);
    }

    /** Ten are open: up to an 11th the text is right. */
    static void the10thIsNot() {
        wrong("r=" + "(".repeat(10), 12);
        wrong("r=" + "(".repeat(10) + "1+", 14);
        wrong("if a{".repeat(10), 50);
        wrong("if a{".repeat(10) + "if a", 54);
        wrong("if a{".repeat(10) + "while", 55);
    }

    /** "or the text's length, if more must come" */
    static void theTextsLengthIfMoreMustCome() {
        String[] begun = {"", "r", "r=", "r=1+", "r=1-", "r=1*", "r=1/", "r=1%", "r=1<", "r=(", "r=(1", "r=(1+", "r=1;",
            "while", "while a", "while a<", "while a{", "while a{r", "while a{r=1", "while a{r=1;", "if", "if a", "if a{",
            "if a{r=1", "if a{r=1}else", "if a{r=1}else{", "if a{r=1}else{r=1", "if a{r=1};"};
        for (String text : begun) {
            wrong(text, text.length());
        }
    }

    static void blanksBehindAreOfTheTextsLength() {
        wrong("    ", 4);
        wrong("r  ", 3);
        wrong("  r = ", 6);
        wrong("while a{r=1 ", 12);
        wrong("r=(1     ", 9);
    }

    static void theLengthIsWhatEndLeft() {
        PracticeGround ground = new PracticeGround();
        ground.feed(0x723d312b, 0x32202020, 0x20202020, 0x20202020, 0x20202020);
        ground.end(4);
        Check.refused("r=1+", IllegalArgumentException.class, ground::read);
        Check.same("fault()", ground.fault(), 4);
    }

    static void theLengthMayBe400() {
        wrong("r=" + " ".repeat(398), 400);
        wrong(" ".repeat(399) + "r", 400);
        wrong("r=1" + " ".repeat(396) + ";", 400);
    }

    static void theLastByteOf400MayBeWrong() {
        wrong("r=1" + " ".repeat(396) + "!", 399);
        wrong("r=1" + " ".repeat(396) + "1", 399);
    }
}
