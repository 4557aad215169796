/** Promises 1 to 3: a new object, feed, end. */
public final class TapeTest {
    public static void main(String[] args) {
        newObject();
        feedAndEnd();
        fullTape();
        order();
        Check.finish();
    }

    private static void newObject() {
        PracticeGround ground = new PracticeGround();
        for (int what = 0; what <= 4; what++) {
            Check.same("count(" + what + ")", ground.count(what), 0);
        }
        Check.same("token(0)", ground.token(0), PracticeGround.NONE);
        Check.same("fault()", ground.fault(), PracticeGround.NONE);
        Check.refused("run", IllegalStateException.class, () -> ground.run(0, 0, 0));
        Check.refused("look", IndexOutOfBoundsException.class, () -> ground.look(0, 0));
        Check.no("end(1) of an empty tape", ground.end(1));
        for (int learner = 0; learner < 8; learner++) {
            Check.same("next", ground.next(learner), PracticeGround.NONE);
            for (int skill = 0; skill < 8; skill++) {
                Check.same("can", ground.can(learner, skill), 0);
                Check.same("wish", ground.wish(learner, skill), PracticeGround.NONE);
            }
        }
    }

    private static void feedAndEnd() {
        PracticeGround ground = new PracticeGround();
        Check.same("feed", ground.feed(1, 2, 3, 4, 5), 20);
        Check.no("end(-1)", ground.end(-1));
        Check.no("end(least)", ground.end(Integer.MIN_VALUE));
        Check.no("end(21)", ground.end(21));
        Check.no("end(greatest)", ground.end(Integer.MAX_VALUE));
        Check.yes("end(20)", ground.end(20));
        Check.same("nothing happened", ground.feed(0, 0, 0, 0, 0), 40);
        Check.yes("end(7)", ground.end(7));
        Check.same("behind 7", ground.feed(0, 0, 0, 0, 0), 27);
        Check.yes("end(0)", ground.end(0));
        Check.no("end(1)", ground.end(1));
        Check.yes("end(0) again", ground.end(0));
        Check.same("from the begin", ground.feed(0, 0, 0, 0, 0), 20);
    }

    private static void fullTape() {
        PracticeGround ground = new PracticeGround();
        for (int i = 1; i <= 20; i++) {
            Check.same("feed " + i, ground.feed(0x20202020, 0x20202020, 0x20202020, 0x20202020, 0x20202020), 20 * i);
        }
        Check.same("a feed over 400", ground.feed(0, 0, 0, 0, 0), PracticeGround.NONE);
        Check.yes("400 stay", ground.end(400));
        Check.yes("end(381)", ground.end(381));
        Check.same("381 and 20", ground.feed(0, 0, 0, 0, 0), PracticeGround.NONE);
        Check.no("none came", ground.end(382));
        Check.yes("end(380)", ground.end(380));
        Check.same("380 and 20", ground.feed(0x20202020, 0x20202020, 0x20202020, 0x20202020, 0x20723d31), 400);
        Check.same("a text of 400 bytes", ground.read(), 3);
        Check.same("used up", ground.feed(0, 0, 0, 0, 0), 20);
    }

    private static void order() {
        PracticeGround ground = new PracticeGround();
        // Bytes of 128 and more must not spill into their neighbours.
        ground.feed(0x723d317f, 0xffffffff, 0, 0, 0);
        ground.end(3);
        Check.same("r=1", ground.read(), 3);
        Check.same("first", ground.token(0), 'r');
        Check.same("second", ground.token(1), '=');
        Check.same("third", ground.token(2), 1001);
        ground.feed(0x723d80ff, 0, 0, 0, 0);
        Check.refused("byte 128", IllegalArgumentException.class, ground::read);
        Check.same("byte 128", ground.fault(), 2);
        ground.feed(0x61626364, 0x3d313233, 0x2b343536, 0x3b723d61, 0x2b622a63);
        Check.refused("abcd=", IllegalArgumentException.class, ground::read);
        ground.feed(0x723d3132, 0x332b3435, 0x363b723d, 0x612b622a, 0x632d6420);
        Check.same("r=123+456;r=a+b*c-d", ground.read(), 15);
        Check.same("123", ground.token(2), 1123);
        Check.same("456", ground.token(4), 1456);
        Check.same("d", ground.token(14), 'd');
    }
}
