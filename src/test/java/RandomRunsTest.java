import java.util.Random;

/** Long runs of drawn calls, with a fixed seed, on the class and on the plain telling of the document. */
public final class RandomRunsTest {
    private static final int RUNS = 3000;
    private static final int CALLS = 512;
    private static final String[] SUMS = {"r=a+b", "r=b+a", "c=a;r=c+b", "d=a;r=d+b", "c=b;d=a;r=c+d", "d=b;c=a;r=d+c",
        "r=a;r=r+b", "r=a-(0-b)", "if a<b{r=a+b}else{r=b+a}", "r=a;while 0<b{r=r+1;b=b-1};r=r+b", "r=a*1+b",
        "r=a+b+0", "r=(a+b)/1", "c=1;while c{c=0;while 0{d=1};r=a+b}", "d=0;r=a+b", "c=00;r=a+b", "r=(a+b)%1000",
        "c=d;r=a+b", "d=c;r=a+b", "c=c;r=a+b", "c=b;d=a;r=d+c", "r=a+b;if r{c=1}", "r=0-(0-a-b)",
        "while r<a+b{r=r+1};r=a+b"};

    private final Random random;
    private final PracticeGround ground = new PracticeGround();
    private final PlainGround plain = new PlainGround();
    // Such a run has tasks from its begin on, and few learners who pass them often.
    private final boolean dense;
    private int tasks = 5;
    private int calls = 0;

    private RandomRunsTest(int seed) {
        random = new Random(seed);
        dense = seed % 2 == 1;
    }

    public static void main(String[] args) {
        for (int run = 0; run < RUNS; run++) {
            RandomRunsTest each = new RandomRunsTest(run);
            boolean same = !each.dense || each.setUp(run);
            while (same && each.calls < CALLS) {
                same = each.step(run);
            }
        }
        Check.finish();
    }

    /** Whether the run goes on: what a call behind the 512th answers is free. */
    private boolean compare(int run, String what, Check.Call got, Check.Call due) {
        if (calls >= CALLS) {
            return false;
        }
        calls++;
        String answered = Check.answer(got);
        String wanted = Check.answer(due);
        Check.yes("run " + run + " call " + calls + ": " + what + " answered " + answered + ", due is " + wanted,
                answered.equals(wanted));
        return answered.equals(wanted);
    }

    private boolean setUp(int run) {
        boolean same = true;
        tasks = 1 + random.nextInt(10);
        for (int i = tasks; same && i > 0; i--) {
            int needs = random.nextInt(3) == 0 ? drawnSet() & 255 : 0;
            int shows = drawnSet();
            same = compare(run, "task", () -> ground.task(needs, shows), () -> plain.task(needs, shows));
        }
        for (int i = random.nextInt(2 * tasks + 2); same && i > 0; i--) {
            int task = random.nextInt(tasks);
            int a = random.nextInt(9);
            int b = random.nextInt(9);
            same = compare(run, "world", () -> ground.world(task, a, b, a + b), () -> plain.world(task, a, b, a + b));
        }
        return same;
    }

    private boolean step(int run) {
        int kind = random.nextInt(24);
        if (kind < 5) {
            return readText(run, text());
        }
        int a = small();
        int b = small();
        int task = index(tasks);
        int learner = index(dense ? 3 : 8);
        int skill = index(dense && kind == 21 ? 3 : 8);
        int what = index(5);
        boolean yes = random.nextBoolean();
        switch (kind) {
            case 5: case 6:
                return compare(run, "run", () -> ground.run(a, b, what), () -> plain.run(a, b, what));
            case 7:
                int needs = drawnSet();
                int shows = drawnSet();
                return compare(run, "task", () -> ground.task(needs, shows), () -> plain.task(needs, shows));
            case 8:
                if (dense && random.nextInt(30) != 0) {
                    return true;
                }
                int r = random.nextInt(9) == 0 ? small() : a + b;
                return compare(run, "world", () -> ground.world(task, a, b, r), () -> plain.world(task, a, b, r));
            case 9: case 10: case 11:
                return compare(run, "attempt", () -> ground.attempt(task, learner, yes),
                        () -> plain.attempt(task, learner, yes));
            case 12:
                return compare(run, "can", () -> ground.can(learner, skill), () -> plain.can(learner, skill));
            case 13:
                return compare(run, "passed", () -> ground.passed(learner, task) ? 1 : 0,
                        () -> plain.passed(learner, task) ? 1 : 0);
            case 14: case 15:
                return compare(run, "next", () -> ground.next(learner), () -> plain.next(learner));
            case 16:
                return compare(run, "wish", () -> ground.wish(learner, skill), () -> plain.wish(learner, skill));
            case 17: case 18:
                return compare(run, "look", () -> ground.look(task, what), () -> plain.look(task, what));
            case 19: case 20:
                return compare(run, "hint", () -> ground.hint(task, what), () -> plain.hint(task, what));
            case 21:
                int least = random.nextInt(12);
                return compare(run, "alike", () -> ground.alike(task, learner, skill, least) ? 1 : 0,
                        () -> plain.alike(task, learner, skill, least) ? 1 : 0);
            case 22:
                int i = index(9);
                return compare(run, "token", () -> ground.token(i), () -> plain.token(i));
            default:
                return compare(run, "count", () -> ground.count(what), () -> plain.count(what));
        }
    }

    private boolean readText(int run, String text) {
        boolean same = true;
        for (int at = 0; same && at < text.length(); at += 20) {
            int[] w = new int[5];
            for (int i = 0; i < 20; i++) {
                w[i / 4] = w[i / 4] << 8 | (at + i < text.length() ? text.charAt(at + i) & 255 : random.nextInt(256));
            }
            same = compare(run, "feed", () -> ground.feed(w[0], w[1], w[2], w[3], w[4]), () -> plain.feed(w));
        }
        int length = random.nextInt(40) == 0 ? text.length() + small() : text.length();
        same = same && compare(run, "end", () -> ground.end(length) ? 1 : 0, () -> plain.end(length) ? 1 : 0);
        if (random.nextInt(30) == 0) {
            return same;
        }
        same = same && compare(run, "read \"" + text + "\"", ground::read, plain::read);
        return same && compare(run, "fault of \"" + text + "\"", ground::fault, plain::fault);
    }

    /** Mostly within, now and then just or far beside. */
    private int index(int size) {
        int[] beside = {-1, size, size + 1, Integer.MIN_VALUE, Integer.MAX_VALUE};
        return random.nextInt(25) == 0 ? beside[random.nextInt(beside.length)] : random.nextInt(size);
    }

    private int small() {
        int[] edges = {Integer.MIN_VALUE, Integer.MAX_VALUE, -1, 0, 1};
        return random.nextInt(12) == 0 ? edges[random.nextInt(edges.length)] : random.nextInt(14) - 2;
    }

    private int drawnSet() {
        int[] beside = {-1, 256, Integer.MIN_VALUE};
        int few = 1 << random.nextInt(8) | (random.nextBoolean() ? 1 << random.nextInt(8) : 0);
        return random.nextInt(30) == 0 ? beside[random.nextInt(3)] : random.nextInt(4) == 0 ? 0 : few;
    }

    private String text() {
        int kind = random.nextInt(10);
        String text = kind < (dense ? 9 : 5) ? SUMS[random.nextInt(SUMS.length)] : block(random.nextInt(kind < 9 ? 4 : 12));
        for (int i = random.nextInt(dense ? 12 : 4) == 0 ? 1 + random.nextInt(2) : 0; i > 0; i--) {
            text = spoiled(text);
        }
        return text;
    }

    private String spoiled(String text) {
        String bytes = "abcdrx 01+-*/%<=(){};!{}(;";
        int at = random.nextInt(text.length() + 1);
        char drawn = random.nextInt(20) == 0 ? (char) random.nextInt(256) : bytes.charAt(random.nextInt(bytes.length()));
        int until = Math.min(text.length(), at + random.nextInt(3));
        return text.substring(0, at) + (random.nextInt(3) == 0 ? "" : String.valueOf(drawn)) + text.substring(until);
    }

    private String block(int deep) {
        StringBuilder text = new StringBuilder(one(deep));
        while (random.nextInt(3) == 0) {
            text.append(';').append(blanks()).append(one(deep));
        }
        return text.toString();
    }

    private String blanks() {
        return " ".repeat(Math.max(0, random.nextInt(8) - 5));
    }

    private String one(int deep) {
        int kind = deep <= 0 ? 0 : random.nextInt(6);
        if (kind < 3) {
            return "abcdr".charAt(random.nextInt(5)) + "=" + blanks() + expr(deep);
        }
        String head = (kind < 5 ? "if " : "while ") + expr(deep - 1) + blanks() + "{" + block(deep - 1) + "}";
        return kind == 3 ? head + "else" + blanks() + "{" + block(deep - 1) + "}" : head;
    }

    private String expr(int deep) {
        return random.nextInt(4) == 0 ? sum(deep) + "<" + sum(deep) : sum(deep);
    }

    private String sum(int deep) {
        StringBuilder text = new StringBuilder(factor(deep));
        while (random.nextInt(3) == 0) {
            text.append("+-*/%+-".charAt(random.nextInt(7))).append(blanks()).append(factor(deep));
        }
        return text.toString();
    }

    private String factor(int deep) {
        int kind = random.nextInt(deep > 0 ? 6 : 5);
        if (kind == 5) {
            return "(" + expr(deep - 1) + ")";
        }
        return kind < 3 ? String.valueOf("abcdr".charAt(random.nextInt(5)))
                : String.valueOf(random.nextInt(20) == 0 ? random.nextInt(1200000) : random.nextInt(12));
    }
}
