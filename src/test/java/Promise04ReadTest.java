/** Promise 4: read, with what PROGRAMS are. Each test is of one boundary that the document names. */
public final class Promise04ReadTest {
    private static final int NONE = PracticeGround.NONE;

    public static void main(String[] args) {
        Check.all(Promise04ReadTest.class);
    }

    private static void right(String text, int tokens) {
        Texts.right(new PracticeGround(), text, tokens);
    }

    private static void wrong(String text, int at) {
        Texts.wrong(new PracticeGround(), text, at);
    }

    /** "a text: BLOCK", and a BLOCK is one DO at least. */
    static void anEmptyTextIsWrong() {
        wrong("", 0);
        wrong(" ", 1);
    }

    static void theLeastProgramHas3Tokens() {
        right("r=1", 3);
        wrong("r=", 2);
        wrong("r", 1);
    }

    /** "DO { ; DO }" */
    static void betweenDosIsJustOneSemicolon() {
        right("r=1;r=2", 7);
        wrong("r=1 r=2", 4);
        wrong("r=1;;r=2", 4);
        wrong(";r=1", 0);
        wrong("r=1;", 4);
        right("if a{r=1};r=2", 11);
        wrong("if a{r=1}r=2", 9);
    }

    static void theBlockOfBracesIsNotEmpty() {
        wrong("while a{}", 8);
        wrong("if a{}", 5);
        wrong("if a{r=1}else{}", 14);
        wrong("while a{r=1;}", 12);
    }

    /** "{ } stand for themselves in while, if, else" */
    static void bracesMustStand() {
        wrong("while a r=1", 8);
        wrong("if a r=1", 5);
        wrong("if a{r=1}else r=1", 14);
        wrong("if a(r=1)", 4);
        wrong("while a{r=1)", 11);
        wrong("{r=1}", 0);
        wrong("r={1}", 2);
    }

    /** "[ else { BLOCK } ]": of an if, once at most. */
    static void elseStandsOnceBehindAnIf() {
        right("if a{r=1}", 7);
        right("if a{r=1}else{r=2}", 13);
        wrong("if a{r=1}else{r=2}else{r=3}", 18);
        wrong("while a{r=1}else{r=2}", 12);
        wrong("else{r=1}", 0);
        wrong("r=1;else{r=1}", 4);
        wrong("if a{r=1};else{r=2}", 10);
        wrong("if a{else{r=1}}", 5);
        right("if a{if b{r=1}else{r=2}}else{r=3}", 23);
    }

    /** "SUM [ < SUM ]": one < at most. */
    static void anExprHasOneLessAtMost() {
        right("r=a<b", 5);
        wrong("r=a<b<c", 5);
        right("r=(a<b)<c", 9);
        right("r=a<(b<c)", 9);
        wrong("r=a+(b<c<d)", 8);
        wrong("if a<b<c{r=1}", 6);
        right("r=a+1<b*2", 9);
    }

    /** "TERM { + TERM | - TERM }", "FACTOR { * FACTOR | / FACTOR | % FACTOR }": none is a right number too. */
    static void everySignHasAFactorOnBothSides() {
        for (char sign : "+-*/%<".toCharArray()) {
            right("r=a" + sign + "b", 5);
            wrong("r=a" + sign, 4);
            wrong("r=" + sign + "b", 2);
            wrong("r=a" + sign + sign + "b", 4);
        }
        wrong("r=a>b", 3);
    }

    /** "( EXPR )" */
    static void parenthesesHoldOneExpr() {
        right("r=(a)", 5);
        wrong("r=()", 3);
        wrong("r=(a", 4);
        wrong("r=a)", 3);
        wrong("r=(a))", 5);
        wrong("r=(a b)", 5);
        wrong("r=(a)(b)", 5);
        wrong("r=(a=b)", 4);
        wrong("(r)=1", 0);
    }

    /** "VARIABLE: a, b, c, d, r" */
    static void fiveLettersAreVariables() {
        for (char letter = 'a'; letter <= 'z'; letter++) {
            if ("abcdr".indexOf(letter) >= 0) {
                right(letter + "=1", 3);
                right("r=" + letter, 3);
            } else {
                wrong(letter + "=1", 0);
                wrong("r=" + letter, 2);
            }
        }
    }

    /** "NUMBER: 1 to 6 digits" */
    static void aNumberHas1To6Digits() {
        right("r=7", 3);
        right("r=123456", 3);
        wrong("r=1234567", 2);
        right("r=999999", 3);
        wrong("r=1000000", 2);
    }

    static void zerosAheadAreDigitsToo() {
        PracticeGround ground = new PracticeGround();
        Texts.right(ground, "r=000000", 3);
        Check.same("token(2)", ground.token(2), 1000);
        Texts.right(ground, "r=000009", 3);
        Check.same("token(2)", ground.token(2), 1009);
        Texts.wrong(ground, "r=0000009", 2);
    }

    static void everyDigitIsOne() {
        PracticeGround ground = new PracticeGround();
        Texts.right(ground, "r=123456;r=7890", 7);
        Check.same("token(2)", ground.token(2), 124456);
        Check.same("token(6)", ground.token(6), 8890);
        wrong("r=" + (char) ('0' - 1), 2);
        wrong("r=" + (char) ('9' + 1), 2);
    }

    /** "At most 120 TOKENS": as every program has an odd number of them, 119 is the most that is taken. */
    static void a119thTokenIsTaken() {
        right("r=" + "1+".repeat(58) + "1", 119);
        right("r=1;".repeat(29) + "r=1", 119);
        right("while " + "1+".repeat(56) + "1{r=1}", 119);
        right("if a+b{" + "r=1;".repeat(26) + "r=1}else{r=2}", 119);
    }

    static void a121stTokenIsNot() {
        wrong("r=" + "1+".repeat(59) + "1", 120);
        wrong("r=1;".repeat(30) + "r=1", 120);
        wrong("while " + "1+".repeat(57) + "1{r=1}", 125);
    }

    static void blanksBehindTheLastTokenAreNone() {
        right("r=" + "1+".repeat(58) + "1" + " ".repeat(281), 119);
    }

    /** "( and { within one another at most 10 deep": ( alone. */
    static void parenthesesGo10Deep() {
        right("r=" + "(".repeat(10) + "a" + ")".repeat(10), 23);
        wrong("r=" + "(".repeat(11) + "a" + ")".repeat(11), 12);
    }

    /** "( and { within one another at most 10 deep": { alone, of while, if and else. */
    static void bracesGo10Deep() {
        right("while a{".repeat(10) + "r=1" + "}".repeat(10), 43);
        wrong("while a{".repeat(11) + "r=1" + "}".repeat(11), 87);
        right("if a{".repeat(10) + "r=1" + "}".repeat(10), 43);
        wrong("if a{".repeat(11) + "r=1" + "}".repeat(11), 54);
        String elses = "if a{r=1}else{".repeat(8);
        right(elses + "while a{while b{r=1}}" + "}".repeat(8), 91);
        right(elses + "while a{if b{r=1}else{r=2}}" + "}".repeat(8), 97);
        wrong(elses + "while a{if b{r=1}else{if c{r=2}}}" + "}".repeat(8), 8 * 14 + 26);
    }

    static void bothCountTogether() {
        right("if a{".repeat(9) + "r=(1)" + "}".repeat(9), 41);
        wrong("if a{".repeat(9) + "r=((1))" + "}".repeat(9), 48);
        right("if a{".repeat(10) + "r=1" + "}".repeat(10), 43);
        wrong("if a{".repeat(10) + "r=(1)" + "}".repeat(10), 52);
        right("if a{".repeat(9) + "if(a){r=1}" + "}".repeat(9), 45);
        wrong("if a{".repeat(10) + "if(a){r=1}" + "}".repeat(10), 52);
        right("if a{r=" + "(".repeat(9) + "1" + ")".repeat(9) + "}", 25);
        wrong("if a{r=" + "(".repeat(10) + "1" + ")".repeat(10) + "}", 16);
    }

    /** Ten ( ahead of a { are closed as it comes. */
    static void closedOnesAreNotWithinOneAnother() {
        right("if " + "(".repeat(10) + "a" + ")".repeat(10) + "{r=1}", 27);
        right("while " + "(".repeat(10) + "a" + ")".repeat(10) + "{r=1}", 27);
        right("r=(1)" + "+(1)".repeat(11), 49);
        right("if a{r=1};".repeat(11) + "r=1", 91);
        right("if a{".repeat(9) + "if a{r=1}else{r=2}" + "}".repeat(9), 49);
        right("if a{".repeat(8) + "if a{r=1}else{r=(2)};r=((3))" + "}".repeat(8), 55);
    }

    /** "Words are as long as letters a to z go on" */
    static void aWordEndsWhereLettersEnd() {
        right("while1{r=1}", 7);
        right("if(a){r=1}else{r=2}", 15);
        wrong("whilea{r=1}", 0);
        wrong("ifa{r=1}", 0);
        wrong("if a{r=1}elser=2", 9);
        wrong("aa=1", 0);
        wrong("r=ab", 2);
        wrong("r=rr", 2);
        wrong("whil a{r=1}", 0);
        wrong("i a{r=1}", 0);
        wrong("els", 0);
        wrong("r=1a", 3);
        wrong("a1=1", 1);
        wrong("While a{r=1}", 0);
        wrong("R=1", 0);
        wrong("wHile a{r=1}", 0);
        wrong("az=1", 0);
        wrong("r=ra", 2);
    }

    /** A word is none if any of its letters is another. */
    static void aWordWithAnotherLetterIsNone() {
        for (int i = 0; i < 5; i++) {
            wrong("while".substring(0, i) + "x" + "while".substring(i + 1) + " a{r=1}", 0);
        }
        for (int i = 0; i < 4; i++) {
            wrong("if a{r=1}" + "else".substring(0, i) + "x" + "else".substring(i + 1) + "{r=2}", 9);
        }
        wrong("xf a{r=1}", 0);
        wrong("ix a{r=1}", 0);
    }

    static void aWordWithALetterMoreOrLessIsNone() {
        for (String word : new String[] {"hile", "whil", "whilee", "wwhile", "f", "i", "iif", "iff"}) {
            wrong(word + " a{r=1}", 0);
        }
        for (String word : new String[] {"lse", "els", "elsee", "eelse"}) {
            wrong("if a{r=1}" + word + "{r=2}", 9);
        }
    }

    /** The bytes beside a to z: 96 and 123, which is {. */
    static void theBytesBesideLettersAreNone() {
        wrong("r=" + (char) 96, 2);
        wrong("r=a" + (char) 96, 3);
        right("if a{r=1}", 7);
    }

    /** "between TOKENS there may be blanks (32), also ahead and behind" */
    static void blanksMayStandEverywhereBetween() {
        right("   r   =   1   ", 3);
        right("if  a  <  b  {  r  =  (  1  )  }  else  {  r  =  2  ;  a  =  3  }", 21);
        right("  while  a  {  r  =  1  }", 7);
    }

    static void blanksMayMissBetween() {
        right("if(a<b){r=(1)}else{r=2;a=3}", 23);
    }

    static void blanksWithinATokenPartIt() {
        wrong("r=12 3", 5);
        wrong("wh ile a{r=1}", 0);
        wrong("r=1;i f a{r=1}", 4);
        wrong("r = = 1", 4);
    }

    static void otherBytesAreNoBlanks() {
        for (int each : new int[] {0, 9, 10, 11, 12, 13, 31, 33, 127, 128, 160, 255}) {
            wrong("r" + (char) each + "=1", 1);
            wrong("r=1" + (char) each, 3);
            wrong((char) each + "r=1", 0);
        }
    }

    /** The longest TAPE: 400 bytes. */
    static void aTextOf400BytesIsRead() {
        right(" ".repeat(397) + "r=1", 3);
        right("r=1" + " ".repeat(397), 3);
        right("r" + " ".repeat(198) + "=" + " ".repeat(199) + "1", 3);
        String full = "r=" + "12345+".repeat(50);
        right(full + "7".repeat(6) + "-" + " ".repeat(90) + "8", 105);
        wrong(" ".repeat(396) + "r=1!", 399);
        wrong(" ".repeat(397) + "r=+", 399);
        wrong(" ".repeat(398) + "r=", 400);
        wrong(" ".repeat(400), 400);
    }

    /** "Uses the TAPE up" */
    static void theTapeIsUsedUp() {
        PracticeGround ground = new PracticeGround();
        Texts.feed(ground, "r=1");
        ground.read();
        Check.no("end(1)", ground.end(1));
        Check.refused("nothing is left to read", IllegalArgumentException.class, ground::read);
        Check.same("fault()", ground.fault(), 0);
    }

    static void theTapeIsUsedUpByAWrongTextToo() {
        PracticeGround ground = new PracticeGround();
        Texts.feed(ground, "r=1!");
        Check.refused("read", IllegalArgumentException.class, ground::read);
        Check.no("end(1)", ground.end(1));
        Texts.right(ground, "r=2", 3);
    }

    /** "a program comes on THE SLATE" */
    static void theProgramReadLastIsOnTheSlate() {
        PracticeGround ground = new PracticeGround();
        Texts.right(ground, "r=a*b;r=r+1", 11);
        Check.same("run", ground.run(5, 6, 1), 31);
        Texts.right(ground, "r=b", 3);
        Check.same("run", ground.run(5, 6, 1), 6);
        Check.same("count(1)", ground.count(1), 3);
        Check.same("nothing of the longer one", ground.token(3), NONE);
    }

    /** "IllegalArgumentException: the text is wrong: THE SLATE stays" */
    static void aWrongTextLeavesTheSlate() {
        PracticeGround ground = new PracticeGround();
        Texts.right(ground, "r=a*b", 5);
        Texts.wrong(ground, "r=a;r=!", 6);
        Check.same("run", ground.run(5, 6, 1), 30);
        Check.same("token(3)", ground.token(3), '*');
        Check.same("count(1)", ground.count(1), 5);
        Check.same("count(2)", ground.count(2), 1);
    }

    static void aWrongTextLeavesAnEmptySlate() {
        PracticeGround ground = new PracticeGround();
        Texts.wrong(ground, "r=a;r=!", 6);
        Check.refused("run", IllegalStateException.class, () -> ground.run(5, 6, 1));
        Check.same("count(1)", ground.count(1), 0);
        Check.same("count(2)", ground.count(2), 0);
    }

    /** "a call that throws changes nothing but the TAPE" (and what fault() tells). */
    static void aWrongTextLeavesAllElse() {
        Scene.BARE.leavesBut("fault", "read()", "throws.IllegalArgumentException", PracticeGround::read);
        Scene.FULL.leavesBut("tape", "read()", "throws.IllegalArgumentException", ground -> {
            try {
                return ground.read();
            } catch (IllegalArgumentException e) {
                // Lets fault() tell again what it told, so that all else can be compared.
                Texts.feed(ground, "r=1+!");
                return ground.read();
            }
        });
    }

    /** What was kept of a program goes on when another is read. */
    static void anotherProgramLeavesTriesAndWays() {
        PracticeGround ground = Scene.FULL.made();
        ground.end(0);
        Texts.read(ground, "r=7");
        Check.same("ways", ground.look(0, 3), 10);
        Check.yes("passed", ground.passed(0, 0));
        Check.yes("alike", ground.alike(1, 0, 7, 9));
        Check.same("can", ground.can(0, 0), 48);
    }
}
