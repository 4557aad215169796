import java.util.ArrayList;
import java.util.EnumMap;
import java.util.List;
import java.util.Map;

/**
 * Grounds at which a call is looked at that must leave them as they are. All that can be asked of a ground is
 * asked of one that has had the call and of one that has not. An object is good for 512 calls, so a new one is
 * made for each part of what is asked.
 */
enum Scene {
    /** A new object. */
    BARE {
        @Override
        void set(PracticeGround ground) {
        }
    },
    /** Two TASKS, the second without a WORLD; nothing on THE SLATE; a fault; a right text on the TAPE. */
    BEGUN {
        @Override
        void set(PracticeGround ground) {
            ground.task(0, 3);
            ground.task(2, 4);
            ground.world(0, 1, 2, 3);
            spoil(ground, "r=!");
            Texts.feed(ground, "r=a+b");
        }
    },
    /** 10 TASKS, of the first 6 WORLDS and 10 RIGHT WAYS; a program on THE SLATE; a fault; a TAPE of 400 bytes. */
    FULL {
        @Override
        void set(PracticeGround ground) {
            for (int i = 0; i < 10; i++) {
                ground.task(i == 9 ? 0 : i, 1 << i % 8 | 2);
            }
            fillFirst(ground);
            ground.world(1, 2, 2, 4);
            ground.world(2, 3, 0, 3);
            ground.world(9, 0, 0, 0);
            tryText(ground, "d=a;r=d+b", 1, 0);
            tryText(ground, "c=a;r=c+b", 1, 7);
            tryText(ground, "r=a*b", 1, 3);
            tryText(ground, "r=a", 2, 0);
            Texts.read(ground, "r=a-b");
            spoil(ground, "r=1+!");
            for (int i = 0; i < 20; i++) {
                ground.feed(0x20202020, 0x20202020, 0x20202020, 0x20202020, 0x20202020);
            }
        }
    };

    interface Deed {
        long on(PracticeGround ground);
    }

    private static final String[] SUMS = {"r=a+b", "r=b+a", "r=a-(0-b)", "c=a;r=c+b", "c=b;r=a+c", "r=a;r=r+b",
        "r=b;r=r+a", "r=a+b+0", "r=a*1+b", "r=a+b*1"};
    private static final int ASKED_OF_ONE = 200;
    private static final Map<Scene, List<String>> UNTOUCHED = new EnumMap<>(Scene.class);

    abstract void set(PracticeGround ground);

    private static void fillFirst(PracticeGround ground) {
        int[][] worlds = {{0, 0}, {1, 2}, {-1, 1}, {7, -9}, {Integer.MAX_VALUE, 1}, {5, 5}};
        for (int[] each : worlds) {
            ground.world(0, each[0], each[1], each[0] + each[1]);
        }
        for (int i = 0; i < SUMS.length; i++) {
            tryText(ground, SUMS[i], 0, i % 4);
        }
    }

    private static void tryText(PracticeGround ground, String text, int task, int learner) {
        Texts.read(ground, text);
        ground.attempt(task, learner, learner % 2 == 1);
    }

    private static void spoil(PracticeGround ground, String text) {
        Texts.feed(ground, text);
        Check.answer(ground::read);
    }

    PracticeGround made() {
        PracticeGround ground = new PracticeGround();
        set(ground);
        return ground;
    }

    /** The call answers what is due and changes nothing. */
    void leaves(String what, String due, Deed call) {
        leavesBut("none", what, due, call);
    }

    /** The call answers what is due and changes nothing, but for questions whose names begin so. */
    void leavesBut(String but, String what, String due, Deed call) {
        PracticeGround ground = made();
        Check.same(this + " " + what, Check.answer(() -> call.on(ground)), due);
        List<String> before = UNTOUCHED.computeIfAbsent(this, scene -> scene.observe(unused -> 0));
        List<String> after = observe(call);
        for (int i = 0; i < before.size(); i++) {
            if (!before.get(i).startsWith(but)) {
                Check.same(this + " behind " + what, after.get(i), before.get(i));
            }
        }
    }

    private List<String> observe(Deed call) {
        List<String> answers = new ArrayList<>();
        List<Deed> deeds = new ArrayList<>();
        List<String> names = new ArrayList<>();
        questions(names, deeds);
        PracticeGround ground = null;
        for (int i = 0; i < deeds.size(); i++) {
            if (i % ASKED_OF_ONE == 0) {
                ground = touched(call);
            }
            answers.add(answerOf(names.get(i), ground, deeds.get(i)));
        }
        deeds.clear();
        names.clear();
        changes(names, deeds);
        for (int i = 0; i < deeds.size(); i++) {
            answers.add(answerOf(names.get(i), touched(call), deeds.get(i)));
        }
        return answers;
    }

    private PracticeGround touched(Deed call) {
        PracticeGround ground = made();
        Check.answer(() -> call.on(ground));
        return ground;
    }

    private static String answerOf(String name, PracticeGround ground, Deed deed) {
        return name + " = " + Check.answer(() -> deed.on(ground));
    }

    private static void questions(List<String> names, List<Deed> deeds) {
        add(names, deeds, "fault", PracticeGround::fault);
        for (int i = 0; i < 8; i++) {
            int one = i;
            add(names, deeds, "count " + i, ground -> ground.count(one));
            add(names, deeds, "token " + i, ground -> ground.token(one));
            add(names, deeds, "run " + i, ground -> ground.run(9, 4, one));
            add(names, deeds, "next " + i, ground -> ground.next(one));
            for (int j = 0; j < 8; j++) {
                int other = j;
                add(names, deeds, "can " + i + " " + j, ground -> ground.can(one, other));
                add(names, deeds, "wish " + i + " " + j, ground -> ground.wish(one, other));
                add(names, deeds, "alike " + i + " " + j, ground -> ground.alike(1, one, other, 9) ? 1 : 0);
            }
        }
        for (int i = 0; i < 10; i++) {
            int task = i;
            for (int j = 0; j < 8; j++) {
                int other = j;
                add(names, deeds, "passed " + j + " " + i, ground -> ground.passed(other, task) ? 1 : 0);
                add(names, deeds, "look " + i + " " + j, ground -> ground.look(task, other));
                add(names, deeds, "hint " + i + " " + j, ground -> ground.hint(task, other));
            }
        }
    }

    /** What can be seen only by a call that changes the ground. */
    private static void changes(List<String> names, List<Deed> deeds) {
        add(names, deeds, "tape", Scene::bytesOnTape);
        add(names, deeds, "tape read", PracticeGround::read);
        add(names, deeds, "tape fault", Scene::faultOfTape);
        add(names, deeds, "task", ground -> ground.task(0, 0));
        for (int i = 0; i < 10; i++) {
            int task = i;
            add(names, deeds, "world " + i, ground -> ground.world(task, 0, 0, 0));
            add(names, deeds, "attempt " + i, ground -> ground.attempt(task, 0, false));
            add(names, deeds, "sum " + i, ground -> trySum(ground, task));
        }
    }

    private static void add(List<String> names, List<Deed> deeds, String name, Deed deed) {
        names.add(name);
        deeds.add(deed);
    }

    /** From above, as an end that is taken cuts the TAPE. */
    private static long bytesOnTape(PracticeGround ground) {
        int n = 401;
        while (n >= 0 && !ground.end(n)) {
            n--;
        }
        return n;
    }

    private static long faultOfTape(PracticeGround ground) {
        Check.answer(ground::read);
        return ground.fault();
    }

    /** Tries a+b, which reads a text onto an emptied TAPE first. */
    private static long trySum(PracticeGround ground, int task) {
        ground.end(0);
        Texts.read(ground, "r=a+b");
        return ground.attempt(task, 5, false);
    }
}
