/** Puts texts on the TAPE of a ground and has it read them. */
final class Texts {
    private Texts() {
    }

    static void feed(PracticeGround ground, String text) {
        for (int at = 0; at < text.length(); at += 20) {
            int[] words = new int[5];
            for (int i = 0; i < 20; i++) {
                int each = at + i < text.length() ? text.charAt(at + i) & 255 : 0;
                words[i / 4] = words[i / 4] << 8 | each;
            }
            ground.feed(words[0], words[1], words[2], words[3], words[4]);
        }
        ground.end(text.length());
    }

    static int read(PracticeGround ground, String text) {
        feed(ground, text);
        return ground.read();
    }

    static void right(PracticeGround ground, String text, int tokens) {
        feed(ground, text);
        int got;
        try {
            got = ground.read();
        } catch (IllegalArgumentException e) {
            got = PracticeGround.NONE;
        }
        Check.same("read \"" + text + "\"", got, tokens);
        Check.same("fault of \"" + text + "\"", ground.fault(), PracticeGround.NONE);
    }

    static void wrong(PracticeGround ground, String text, int at) {
        feed(ground, text);
        Check.refused("read \"" + text + "\"", IllegalArgumentException.class, ground::read);
        Check.same("fault of \"" + text + "\"", ground.fault(), at);
    }
}
