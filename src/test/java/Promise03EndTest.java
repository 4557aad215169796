/** Promise 3: end. Each test is of one boundary that the document names. */
public final class Promise03EndTest {
    public static void main(String[] args) {
        Check.all(Promise03EndTest.class);
    }

    private static PracticeGround tapeOf(String text) {
        PracticeGround ground = new PracticeGround();
        Texts.feed(ground, text);
        return ground;
    }

    /** "false .. if .. n is below 0" */
    static void below0IsRefused() {
        for (Scene scene : Scene.values()) {
            scene.leaves("end(-1)", "0", ground -> ground.end(-1) ? 1 : 0);
            scene.leaves("end(least)", "0", ground -> ground.end(Integer.MIN_VALUE) ? 1 : 0);
        }
    }

    /** "false, and nothing happens, if it has fewer": one fewer. */
    static void oneMoreThanItHasIsRefused() {
        Scene.BARE.leaves("end(1)", "0", ground -> ground.end(1) ? 1 : 0);
        Scene.BEGUN.leaves("end(6)", "0", ground -> ground.end(6) ? 1 : 0);
        Scene.FULL.leaves("end(401)", "0", ground -> ground.end(401) ? 1 : 0);
    }

    static void farMoreThanItHasIsRefused() {
        for (Scene scene : Scene.values()) {
            scene.leaves("end(greatest)", "0", ground -> ground.end(Integer.MAX_VALUE) ? 1 : 0);
        }
        Scene.BEGUN.leaves("end(400)", "0", ground -> ground.end(400) ? 1 : 0);
    }

    static void asManyAsItHasAreLeft() {
        Scene.BARE.leaves("end(0)", "1", ground -> ground.end(0) ? 1 : 0);
        Scene.BEGUN.leaves("end(5)", "1", ground -> ground.end(5) ? 1 : 0);
        Scene.FULL.leaves("end(400)", "1", ground -> ground.end(400) ? 1 : 0);
    }

    static void fewerChangeTheTapeAlone() {
        Scene.BEGUN.leavesBut("tape", "end(4)", "1", ground -> ground.end(4) ? 1 : 0);
        Scene.FULL.leavesBut("tape", "end(0)", "1", ground -> ground.end(0) ? 1 : 0);
    }

    /** "The TAPE has its first n bytes alone" */
    static void theFirstBytesStay() {
        PracticeGround ground = tapeOf("r=123456");
        for (int n = 8; n >= 3; n--) {
            Check.yes("end(" + n + ")", ground.end(n));
        }
        Check.same("read", ground.read(), 3);
        Check.same("r=1", ground.token(2), 1001);
    }

    static void theOthersAreGone() {
        PracticeGround ground = tapeOf("r=123456");
        Check.yes("end(3)", ground.end(3));
        Check.no("end(4)", ground.end(4));
        Check.same("feed", ground.feed(0x20202020, 0x20202020, 0x20202020, 0x20202020, 0x20202020), 23);
        Check.same("read", ground.read(), 3);
        Check.same("r=1", ground.token(2), 1001);
    }

    static void end0LeavesNothing() {
        PracticeGround ground = tapeOf("r=1");
        Check.yes("end(0)", ground.end(0));
        Check.no("end(1)", ground.end(1));
        Check.refused("read", IllegalArgumentException.class, ground::read);
        Check.same("fault()", ground.fault(), 0);
    }

    static void behindAReadThereIsNothing() {
        PracticeGround ground = tapeOf("r=1");
        ground.read();
        Check.no("end(1)", ground.end(1));
        Check.yes("end(0)", ground.end(0));
    }
}
