/** Promise 2: feed. Each test is of one boundary that the document names. */
public final class Promise02FeedTest {
    private static final int NONE = PracticeGround.NONE;
    private static final int BLANKS = 0x20202020;

    public static void main(String[] args) {
        Check.all(Promise02FeedTest.class);
    }

    private static PracticeGround blanks(int bytes) {
        PracticeGround ground = new PracticeGround();
        for (int i = 0; i < bytes; i += 20) {
            ground.feed(BLANKS, BLANKS, BLANKS, BLANKS, BLANKS);
        }
        ground.end(bytes);
        return ground;
    }

    /** "how many it has" */
    static void answersHowManyItHasUpTo400() {
        PracticeGround ground = new PracticeGround();
        for (int i = 1; i <= 20; i++) {
            Check.same("feed " + i, ground.feed(BLANKS, BLANKS, BLANKS, BLANKS, BLANKS), 20 * i);
        }
    }

    /** "NONE .. if it would have more than 400": 400 are taken. */
    static void takes20BytesBehind380() {
        PracticeGround ground = blanks(380);
        Check.same("feed", ground.feed(BLANKS, BLANKS, BLANKS, BLANKS, 0x20723d37), 400);
        Check.same("the last of them is there", ground.read(), 3);
        Check.same("the last of them is there", ground.token(2), 1007);
    }

    /** "NONE .. if it would have more than 400": 401 are not. */
    static void refuses20BytesBehind381() {
        Check.same("feed", blanks(381).feed(BLANKS, BLANKS, BLANKS, BLANKS, BLANKS), NONE);
    }

    /** "and none come": not even those for which there is room. */
    static void noneComeBehind381() {
        PracticeGround ground = blanks(381);
        ground.feed(0x21212121, 0x21212121, 0x21212121, 0x21212121, 0x21212121);
        Check.no("end(382)", ground.end(382));
        Check.yes("end(381)", ground.end(381));
        Check.refused("read", IllegalArgumentException.class, ground::read);
        Check.same("blanks alone", ground.fault(), 381);
    }

    static void refusesAnythingBehind400() {
        Scene.FULL.leaves("feed", "-1", ground -> ground.feed(0x723d3120, 0, 0, 0, 0));
        Scene.FULL.leaves("feed", "-1", ground -> ground.feed(-1, -1, -1, -1, -1));
    }

    static void takesAgainWhenThereIsRoomAgain() {
        PracticeGround ground = blanks(400);
        Check.same("full", ground.feed(BLANKS, BLANKS, BLANKS, BLANKS, BLANKS), NONE);
        ground.end(380);
        Check.same("room", ground.feed(BLANKS, BLANKS, BLANKS, BLANKS, BLANKS), 400);
        Check.same("full again", ground.feed(BLANKS, BLANKS, BLANKS, BLANKS, BLANKS), NONE);
    }

    /** "of each number the highest first" */
    static void theHighestByteComesFirst() {
        PracticeGround ground = new PracticeGround();
        ground.feed(0x723d612b, 0x622d632a, 0x642f3125, 0x323c333b, 0x723d3435);
        Check.same("r=a+b-c*d/1%2<3;r=45", ground.read(), 19);
        int[] due = {'r', '=', 'a', '+', 'b', '-', 'c', '*', 'd', '/', 1001, '%', 1002, '<', 1003, ';', 'r', '=', 1045};
        for (int i = 0; i < due.length; i++) {
            Check.same("token(" + i + ")", ground.token(i), due[i]);
        }
    }

    /** Bytes of 128 to 255 make a number below 0 where they are its highest: they change no neighbour. */
    static void bytesOf128AndMoreStandAlone() {
        for (int at = 0; at < 20; at++) {
            int[] words = {BLANKS, BLANKS, BLANKS, BLANKS, BLANKS};
            words[at / 4] |= 0xff << 24 - at % 4 * 8;
            PracticeGround ground = new PracticeGround();
            ground.feed(words[0], words[1], words[2], words[3], words[4]);
            Check.refused("byte 255 at " + at, IllegalArgumentException.class, ground::read);
            Check.same("byte 255 at " + at, ground.fault(), at);
        }
    }

    /** "come behind the TAPE" */
    static void aTokenMayGoFromOneFeedToTheNext() {
        PracticeGround ground = new PracticeGround();
        ground.feed(BLANKS, BLANKS, BLANKS, BLANKS, 0x723d3132);
        ground.feed(0x33343536, BLANKS, BLANKS, BLANKS, BLANKS);
        Check.same("read", ground.read(), 3);
        Check.same("123456", ground.token(2), 124456);
    }

    static void comesBehindWhatEndLeft() {
        PracticeGround ground = new PracticeGround();
        ground.feed(0x723d3939, 0, 0, 0, 0);
        ground.end(3);
        Check.same("feed", ground.feed(0x37202020, BLANKS, BLANKS, BLANKS, BLANKS), 23);
        Check.same("read", ground.read(), 3);
        Check.same("97", ground.token(2), 1097);
    }

    static void beginsAnewBehindARead() {
        PracticeGround ground = blanks(400);
        Check.refused("read", IllegalArgumentException.class, ground::read);
        Check.same("behind a wrong one", ground.feed(0x723d3120, BLANKS, BLANKS, BLANKS, BLANKS), 20);
        Check.same("read", ground.read(), 3);
        Check.same("behind a right one", ground.feed(0, 0, 0, 0, 0), 20);
    }

    static void changesTheTapeAlone() {
        Scene.BARE.leavesBut("tape", "feed", "20", ground -> ground.feed(1, 2, 3, 4, 5));
        Scene.BEGUN.leavesBut("tape", "feed", "25", ground -> ground.feed(1, 2, 3, 4, 5));
    }
}
