/** Promises 4, 5 and 17: read, fault, token. */
public final class ReadTest {
    public static void main(String[] args) {
        rightTexts();
        wrongTokens();
        moreMustCome();
        numbers();
        mostTokens();
        mostDeep();
        everyByte();
        slateStays();
        tokens();
        Check.finish();
    }

    private static void rightTexts() {
        PracticeGround ground = new PracticeGround();
        Texts.right(ground, "a=b", 3);
        Texts.right(ground, "   r   =   1   ", 3);
        Texts.right(ground, "a=1;b=2;c=3;d=4;r=5", 19);
        Texts.right(ground, "while1{r=1}", 7);
        Texts.right(ground, "if(a){r=1}", 9);
        Texts.right(ground, "if a{r=1}else{r=2}", 13);
        Texts.right(ground, "if a{r=1};if b{r=2}else{r=3}", 21);
        Texts.right(ground, "while a<b{if r{r=1};c=2}", 17);
        Texts.right(ground, "r=(a<b)<(b<a)", 13);
        Texts.right(ground, "r=a+b-c*d/r%1<2", 15);
        Texts.right(ground, "r=((a))", 7);
        Texts.right(ground, "if a{r=1}else{if b{r=2}else{r=3}}", 23);
        Texts.right(ground, "while a{r=1};r=2", 11);
    }

    private static void wrongTokens() {
        PracticeGround ground = new PracticeGround();
        Texts.wrong(ground, "1=r", 0);
        Texts.wrong(ground, ";", 0);
        Texts.wrong(ground, "  e=1", 2);
        Texts.wrong(ground, "ab=1", 0);
        Texts.wrong(ground, "r=ab", 2);
        Texts.wrong(ground, "r=1;whilea{r=1}", 4);
        Texts.wrong(ground, "r=whil", 2);
        Texts.wrong(ground, "While a{r=1}", 0);
        Texts.wrong(ground, "r==1", 2);
        Texts.wrong(ground, "r<1", 1);
        Texts.wrong(ground, "r=1;;r=2", 4);
        Texts.wrong(ground, "r=1}", 3);
        Texts.wrong(ground, "r=1)", 3);
        Texts.wrong(ground, "r=(1}", 4);
        Texts.wrong(ground, "r=()", 3);
        Texts.wrong(ground, "r=1+*2", 4);
        Texts.wrong(ground, "r=a b", 4);
        Texts.wrong(ground, "r=1a", 3);
        Texts.wrong(ground, "r=a<b<c", 5);
        Texts.wrong(ground, "r=(a<b<c)", 6);
        Texts.wrong(ground, "r=a(b)", 3);
        Texts.wrong(ground, "r=1{", 3);
        Texts.wrong(ground, "if a{r=1;}", 9);
        Texts.wrong(ground, "if a{r=1}r=2", 9);
        Texts.wrong(ground, "if a{r=1};else{r=2}", 10);
        Texts.wrong(ground, "if a{r=1}else r=2", 14);
        Texts.wrong(ground, "if a{r=1}else{r=2}else{r=3}", 18);
        Texts.wrong(ground, "if a{r=1}else if b{r=1}", 14);
        Texts.wrong(ground, "while a{r=1} else{r=2}", 13);
        Texts.wrong(ground, "if {r=1}", 3);
        Texts.wrong(ground, "if a;{r=1}", 4);
        Texts.wrong(ground, "if a=1{r=1}", 4);
        Texts.wrong(ground, "if if", 3);
        Texts.wrong(ground, "while a{}", 8);
        Texts.wrong(ground, "{r=1}", 0);
        Texts.wrong(ground, "r=if", 2);
        Texts.wrong(ground, "r=\t1", 2);
        Texts.wrong(ground, "r=1\n", 3);
        Texts.wrong(ground, "r=+1", 2);
        Texts.wrong(ground, "r=1 !!", 4);
        // The first wrong TOKEN counts, not the first that is none.
        Texts.wrong(ground, "r 1 !", 2);
    }

    private static void moreMustCome() {
        PracticeGround ground = new PracticeGround();
        Texts.wrong(ground, "", 0);
        Texts.wrong(ground, "    ", 4);
        Texts.wrong(ground, "r", 1);
        Texts.wrong(ground, "r  ", 3);
        Texts.wrong(ground, "r = ", 4);
        Texts.wrong(ground, "r=1; ", 5);
        Texts.wrong(ground, "r=1+", 4);
        Texts.wrong(ground, "r=1<", 4);
        Texts.wrong(ground, "r=(", 3);
        Texts.wrong(ground, "r=(1", 4);
        Texts.wrong(ground, "while", 5);
        Texts.wrong(ground, "while a", 7);
        Texts.wrong(ground, "while a{", 8);
        Texts.wrong(ground, "if a{r=1", 8);
        Texts.wrong(ground, "if a{r=1}else", 13);
        Texts.wrong(ground, "if a{r=1}else{", 14);
    }

    private static void numbers() {
        PracticeGround ground = new PracticeGround();
        Texts.right(ground, "r=0", 3);
        Check.same("0", ground.token(2), 1000);
        Texts.right(ground, "r=000007", 3);
        Check.same("000007", ground.token(2), 1007);
        Texts.right(ground, "r=999999", 3);
        Check.same("999999", ground.token(2), 1000999);
        // 1000 and 64633 is 'a' in 16 bits: a NUMBER must not be taken for a VARIABLE.
        Texts.right(ground, "r=64633", 3);
        Check.same("64633 runs", ground.run(5, 6, 1), 64633);
        Texts.wrong(ground, "r=0000000", 2);
        Texts.wrong(ground, "r=1+4294967297", 4);
        Texts.wrong(ground, "r=999999 9", 9);
    }

    private static void mostTokens() {
        PracticeGround ground = new PracticeGround();
        // A program has an odd number of TOKENS, so 119 is the most that can be right.
        String most = "if " + "1+".repeat(56) + "1{r=1}";
        Texts.right(ground, most, 119);
        Texts.right(ground, most + "   ", 119);
        Texts.right(ground, "r=" + "1+".repeat(56) + "1;r=1", 119);
        Texts.right(ground, "r=1;".repeat(29) + "r=1", 119);
        Texts.right(ground, "while " + "1+".repeat(56) + "1{r=2}", 119);
        Check.same("token(118)", ground.token(118), '}');
        Check.same("token(119)", ground.token(119), PracticeGround.NONE);
        // With the 120th TOKEN more must come; a 121st is wrong, whatever it is.
        Texts.wrong(ground, most + " ; ", most.length() + 3);
        Texts.wrong(ground, most + " ;  r=1", most.length() + 4);
        Texts.wrong(ground, most + " ;!", most.length() + 2);
        Texts.wrong(ground, most + "!", most.length());
        Texts.wrong(ground, most + "else", most.length() + 4);
        Texts.wrong(ground, most + "else{r=1}", most.length() + 4);
        Texts.wrong(ground, "r=" + "1+".repeat(59) + " ", 121);
        Texts.wrong(ground, "r=" + "1+".repeat(59) + "1", 120);
        Texts.wrong(ground, "if " + "1+".repeat(59) + "1", 122);
        Texts.wrong(ground, "if " + "1+".repeat(59) + "1{", 122);
        Texts.wrong(ground, "while 1{r=1};while " + "1+".repeat(54) + "1{r=1}", 19 + 109 + 2);
        Texts.wrong(ground, "while " + "1+".repeat(59) + "{r=1}", 6 + 118);
        Check.same("the last right one stays", ground.count(1), 119);
    }

    private static void mostDeep() {
        PracticeGround ground = new PracticeGround();
        Texts.right(ground, "r=" + "(".repeat(10) + "a" + ")".repeat(10), 23);
        Texts.wrong(ground, "r=" + "(".repeat(11) + "a" + ")".repeat(11), 12);
        Texts.right(ground, "while a{".repeat(10) + "r=1" + "}".repeat(10), 43);
        Texts.wrong(ground, "while a{".repeat(11) + "r=1" + "}".repeat(11), 87);
        Texts.right(ground, "if a{".repeat(5) + "r=" + "(".repeat(5) + "a" + ")".repeat(5) + "}".repeat(5), 33);
        Texts.wrong(ground, "if a{".repeat(5) + "r=" + "(".repeat(6) + "a", 32);
        Texts.wrong(ground, "if a{".repeat(10) + "r=(1)", 52);
        Texts.wrong(ground, "if a{".repeat(10) + "if(1){r=1}", 52);
        Texts.wrong(ground, "if a{".repeat(9) + "if(a){r=1}else{r=(2)}", 62);
        Texts.wrong(ground, "if a{".repeat(9) + "r=(1)+(2);if((a)){r=1}" + "}".repeat(9), 58);
        // Closed ones no longer count.
        Texts.right(ground, "r=(1)+(2)+(3)+(4)+(5)+(6)+(7)+(8)+(9)+(1)+(2)+(3)", 49);
        Texts.wrong(ground, "if a{".repeat(9) + "if a{r=1}else{if a{", 45 + 18);
    }

    private static void everyByte() {
        PracticeGround ground = new PracticeGround();
        for (int each = 0; each < 256; each++) {
            if (each % 100 == 0) {
                ground = new PracticeGround();
            }
            String text = "r=" + (char) each;
            if ("abcdr0123456789".indexOf(each) >= 0) {
                Texts.right(ground, text, 3);
            } else {
                Texts.wrong(ground, text, each == '(' || each == ' ' ? 3 : 2);
            }
        }
    }

    private static void slateStays() {
        PracticeGround ground = new PracticeGround();
        Texts.right(ground, "r=a*7", 5);
        Texts.wrong(ground, "r=!", 2);
        Check.same("count(1)", ground.count(1), 5);
        Check.same("count(2)", ground.count(2), 1);
        Check.same("run", ground.run(6, 0, 1), 42);
        Check.same("the tape is used up", ground.feed(0, 0, 0, 0, 0), 20);
        Check.refused("zeros", IllegalArgumentException.class, ground::read);
        Check.refused("nothing", IllegalArgumentException.class, ground::read);
        Check.same("nothing", ground.fault(), 0);
        Texts.right(ground, "r=b", 3);
        Check.same("count(2)", ground.count(2), 2);
        Check.same("run", ground.run(6, 9, 1), 9);
    }

    private static void tokens() {
        PracticeGround ground = new PracticeGround();
        Texts.right(ground, "if a<b{r=1+2}else{while c{d=(3-4)*5/6%7;b=r}}", 35);
        int[] due = {257, 'a', '<', 'b', '{', 'r', '=', 1001, '+', 1002, '}', 258, '{', 256, 'c', '{', 'd', '=', '(',
            1003, '-', 1004, ')', '*', 1005, '/', 1006, '%', 1007, ';', 'b', '=', 'r', '}', '}'};
        Check.same("count(1)", ground.count(1), due.length);
        for (int i = 0; i < due.length; i++) {
            Check.same("token(" + i + ")", ground.token(i), due[i]);
        }
        Check.same("behind all", ground.token(due.length), PracticeGround.NONE);
        Check.same("token(-1)", ground.token(-1), PracticeGround.NONE);
        Check.same("token(least)", ground.token(Integer.MIN_VALUE), PracticeGround.NONE);
        Check.same("token(greatest)", ground.token(Integer.MAX_VALUE), PracticeGround.NONE);
    }
}
