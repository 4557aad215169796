import java.util.ArrayList;
import java.util.HashMap;
import java.util.HashSet;
import java.util.List;
import java.util.Map;
import java.util.NoSuchElementException;
import java.util.Set;

/** The document told once more, as plainly as the Java library lets it be: what the random runs compare with. */
final class PlainGround {
    private static final class Task {
        private int needs;
        private int shows;
        private final List<int[]> worlds = new ArrayList<>();
        private final List<PlainProgram> ways = new ArrayList<>();
        private final Map<Integer, PlainProgram> first = new HashMap<>();
    }

    private final StringBuilder tape = new StringBuilder();
    private final List<Task> tasks = new ArrayList<>();
    private final int[][] cans = new int[8][8];
    private PlainProgram slate = null;
    private int fault = -1;
    private int read = 0;
    private int tries = 0;
    private int passes = 0;

    int feed(int... words) {
        if (tape.length() > 380) {
            return -1;
        }
        for (int word : words) {
            for (int i = 0; i < 4; i++) {
                tape.append((char) (word >>> 24 - 8 * i & 255));
            }
        }
        return tape.length();
    }

    boolean end(int n) {
        boolean has = n >= 0 && n <= tape.length();
        if (has) {
            tape.setLength(n);
        }
        return has;
    }

    int read() {
        PlainProgram program = new PlainProgram(tape.toString());
        tape.setLength(0);
        fault = program.fault;
        if (fault >= 0) {
            throw new IllegalArgumentException();
        }
        slate = program;
        read++;
        return program.tokens.size();
    }

    int fault() {
        return fault;
    }

    int run(int a, int b, int what) {
        onSlate();
        among(what, 4);
        slate.run(a, b);
        return what == 0 ? slate.ending : what == 1 ? slate.values.get((int) 'r') : what == 2 ? slate.steps : slate.skills;
    }

    int task(int needs, int shows) {
        if ((needs & 255) != needs || (shows & 255) != shows) {
            throw new IllegalArgumentException();
        }
        if (tasks.size() == 10) {
            throw new UnsupportedOperationException();
        }
        Task task = new Task();
        task.needs = needs;
        task.shows = shows;
        tasks.add(task);
        return tasks.size() - 1;
    }

    int world(int task, int a, int b, int r) {
        List<int[]> worlds = at(task).worlds;
        if (worlds.size() == 6) {
            return -1;
        }
        worlds.add(new int[] {a, b, r});
        return worlds.size() - 1;
    }

    int attempt(int task, int learner, boolean hinted) {
        Task tried = at(task);
        within(learner, 8);
        onSlate();
        if (tried.worlds.isEmpty()) {
            return -1;
        }
        tries++;
        int shown = 0;
        for (int[] world : tried.worlds) {
            slate.run(world[0], world[1]);
            if (slate.ending != 0 || slate.values.get((int) 'r') != world[2]) {
                return 1 + tried.worlds.indexOf(world);
            }
            shown |= slate.skills;
        }
        passes++;
        for (int skill = 0; skill < 8 && !tried.first.containsKey(learner); skill++) {
            int more = (shown & 1 << skill) == 0 ? 0 : hinted ? 4 : 16;
            cans[learner][skill] = Math.min(64, cans[learner][skill] + more);
        }
        tried.first.putIfAbsent(learner, slate);
        String shape = slate.shape();
        if (tried.ways.size() < 10 && tried.ways.stream().noneMatch(way -> way.shape().equals(shape))) {
            tried.ways.add(slate);
        }
        return 0;
    }

    int can(int learner, int skill) {
        within(learner, 8);
        within(skill, 8);
        return cans[learner][skill];
    }

    boolean passed(int learner, int task) {
        within(learner, 8);
        return at(task).first.containsKey(learner);
    }

    int next(int learner) {
        within(learner, 8);
        int best = -1;
        int most = -1;
        for (int i = 0; i < tasks.size(); i++) {
            Task task = tasks.get(i);
            int gain = 0;
            boolean fits = !task.worlds.isEmpty() && !task.first.containsKey(learner);
            for (int skill = 0; skill < 8; skill++) {
                fits &= (task.needs & 1 << skill) == 0 || cans[learner][skill] >= 32;
                gain += (task.shows & 1 << skill) == 0 ? 0 : 64 - cans[learner][skill];
            }
            if (fits && gain > most) {
                most = gain;
                best = i;
            }
        }
        return best;
    }

    int wish(int learner, int skill) {
        within(learner, 8);
        within(skill, 8);
        Set<Integer> there = new HashSet<>();
        int able = 0;
        for (int i = 0; i < 8; i++) {
            able |= cans[learner][i] >= 32 ? 1 << i : 0;
        }
        there.add(able);
        for (int taken = 0; taken <= 10; taken++) {
            Set<Integer> after = new HashSet<>(there);
            for (int set : there) {
                if ((set & 1 << skill) != 0) {
                    return taken;
                }
                for (Task task : tasks) {
                    if ((set | task.needs) == set) {
                        after.add(set | task.shows);
                    }
                }
            }
            there = after;
        }
        return -1;
    }

    int look(int task, int what) {
        Task asked = at(task);
        among(what, 5);
        return new int[] {asked.needs, asked.shows, asked.worlds.size(), asked.ways.size(), asked.first.size()}[what];
    }

    int hint(int task, int what) {
        Task asked = at(task);
        onSlate();
        among(what, 5);
        int nearest = -1;
        int[] answers = {-1, -1, -1, -1, -1};
        for (int i = 0; i < asked.ways.size(); i++) {
            int[] found = changes(slate.tokens, asked.ways.get(i).tokens);
            if (nearest < 0 || found[0] < answers[0]) {
                nearest = i;
                answers = found;
                answers[1] = i;
            }
        }
        return answers[what];
    }

    private static int[] changes(List<Integer> from, List<Integer> to) {
        int n = from.size();
        int m = to.size();
        int[][] left = new int[n + 1][m + 1];
        for (int i = n; i >= 0; i--) {
            for (int j = m; j >= 0; j--) {
                int best = i == n && j == m ? 0 : 1000;
                best = i < n && j < m ? Math.min(best, left[i + 1][j + 1] + (same(from, i, to, j) ? 0 : 1)) : best;
                best = j < m ? Math.min(best, left[i][j + 1] + 1) : best;
                best = i < n ? Math.min(best, left[i + 1][j] + 1) : best;
                left[i][j] = best;
            }
        }
        int i = 0;
        while (i < n && i < m && same(from, i, to, i) && left[i + 1][i + 1] == left[i][i]) {
            i++;
        }
        int[] answers = {left[0][0], -1, -1, -1, -1};
        if (answers[0] == 0) {
            return answers;
        }
        int due = left[i][i] - 1;
        answers[2] = i < n && i < m && !same(from, i, to, i) && left[i + 1][i + 1] == due ? 0
                : i < m && left[i][i + 1] == due ? 1 : 2;
        answers[3] = i;
        answers[4] = answers[2] == 2 ? -1 : to.get(i);
        return answers;
    }

    private static boolean same(List<Integer> from, int i, List<Integer> to, int j) {
        return from.get(i).intValue() == to.get(j).intValue();
    }

    boolean alike(int task, int a, int b, int tokens) {
        Task asked = at(task);
        within(a, 8);
        within(b, 8);
        PlainProgram one = asked.first.get(a);
        PlainProgram other = asked.first.get(b);
        return a != b && one != null && other != null && one.shape().equals(other.shape())
                && one.tokens.size() >= tokens;
    }

    int token(int i) {
        return slate == null || i < 0 || i >= slate.tokens.size() ? -1 : slate.tokens.get(i);
    }

    int count(int what) {
        int[] answers = {tasks.size(), slate == null ? 0 : slate.tokens.size(), read, tries, passes};
        return what < 0 || what > 4 ? -1 : answers[what];
    }

    private Task at(int task) {
        within(task, tasks.size());
        return tasks.get(task);
    }

    private void onSlate() {
        if (slate == null) {
            throw new IllegalStateException();
        }
    }

    private static void within(int number, int size) {
        if (number < 0 || number >= size) {
            throw new IndexOutOfBoundsException();
        }
    }

    private static void among(int what, int size) {
        if (what < 0 || what >= size) {
            throw new NoSuchElementException();
        }
    }
}
