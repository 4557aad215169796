import java.util.Arrays;
import java.util.NoSuchElementException;

/**
 * A practice ground: programs of a small language are read from a tape, run with fuel, and tried at
 * tasks; what learners can, their next task, hints and programs alike in shape follow from the tries.
 * The document's words in capitals (TOKEN, TASK, SHAPE, ..) are used here as it uses them.
 */
public final class PracticeGround {
    public static final int NONE = -1;

    private static final int MOST_BYTES = 400;
    private static final int BYTES_A_FEED = 20;
    private static final int MOST_TOKENS = 120;
    private static final int MOST_DIGITS = 6;
    private static final int MOST_DEEP = 10;
    private static final int MOST_STEPS = 1000;
    private static final int MOST_TASKS = 10;
    private static final int MOST_WORLDS = 6;
    private static final int MOST_WAYS = 10;
    private static final int LEARNERS = 8;
    private static final int SKILLS = 8;
    private static final int SETS = 256;
    private static final int MOST_CAN = 64;
    private static final int ENOUGH_CAN = 32;
    private static final int MORE_ALONE = 16;
    private static final int MORE_HINTED = 4;

    // TOKENS as numbers; a sign or a VARIABLE is its byte.
    private static final int WHILE = 256;
    private static final int IF = 257;
    private static final int ELSE = 258;
    private static final int NUMBER = 1000;
    private static final int TEXT_END = 0;
    private static final int WRONG = -2;
    private static final String SIGNS = "=<+-*/%(){};";

    // The levels of EXPR, loosest first.
    private static final int COMPARE = 0;
    private static final int SUM = 1;
    private static final int TERM = 2;

    private static final int SKILL_SET = 1;
    private static final int SKILL_ADD = 2;
    private static final int SKILL_TIMES = 4;
    private static final int SKILL_DIVIDE = 8;
    private static final int SKILL_LESS = 16;
    private static final int SKILL_IF = 32;
    private static final int SKILL_WHILE = 64;
    private static final int SKILL_WHILE_WITHIN = 128;

    // What a program is turned into, so that a RUN needs no recursion; an operator's code is its sign.
    private static final int DONE = 0;
    private static final int PUSH = 1;
    private static final int LOAD = 2;
    private static final int STORE = 3;
    private static final int STEP = 4;
    private static final int SKIP = 5;
    private static final int JUMP = 6;
    // No TOKEN makes more than one operation, and one closes the program.
    private static final int MOST_OPERATIONS = MOST_TOKENS + 1;
    // Far above MOST_STEPS times MOST_OPERATIONS.
    private static final int MOST_TURNS = 1000000;

    private static final int VARIABLES = 5;
    private static final int VARIABLE_A = 0;
    private static final int VARIABLE_B = 1;
    private static final int VARIABLE_R = 4;

    private static final int ENDED_DONE = 0;
    private static final int ENDED_BY_ZERO = 1;
    private static final int ENDED_DRY = 2;

    private static final int CHANGE = 0;
    private static final int PUT = 1;
    private static final int STRIKE = 2;

    private final Tape tape = new Tape();
    private final Parser parser = new Parser();
    private final Machine machine = new Machine();
    private final Comparison comparison = new Comparison();
    private final Path path = new Path();
    private final Task[] tasks = new Task[MOST_TASKS];
    private final Learner[] learners = new Learner[LEARNERS];
    private Program slate;
    private int faultAt = NONE;
    private int tasksMade;
    private int programsRead;
    private int triesMade;
    private int passesMade;

    public PracticeGround() {
        for (int i = 0; i < LEARNERS; i++) {
            learners[i] = new Learner();
        }
    }

    public int feed(int a, int b, int c, int d, int e) {
        if (tape.size + BYTES_A_FEED > MOST_BYTES) {
            return NONE;
        }
        tape.append(a);
        tape.append(b);
        tape.append(c);
        tape.append(d);
        tape.append(e);
        return tape.size;
    }

    public boolean end(int n) {
        if (n < 0 || n > tape.size) {
            return false;
        }
        tape.size = n;
        return true;
    }

    public int read() throws IllegalArgumentException {
        Program program = parser.parse(tape);
        tape.size = 0;
        if (program == null) {
            faultAt = parser.wrongByte();
            throw new IllegalArgumentException("the text is wrong");
        }
        faultAt = NONE;
        slate = program;
        programsRead++;
        return program.size();
    }

    public int fault() {
        return faultAt;
    }

    public int run(int a, int b, int what) throws IllegalStateException, NoSuchElementException {
        Program program = programOnSlate();
        checkWhat(what, 3);
        machine.execute(program, a, b);
        switch (what) {
            case 0:
                return machine.ending;
            case 1:
                return machine.result();
            case 2:
                return machine.steps;
            default:
                return machine.skills;
        }
    }

    public int task(int needs, int shows) throws IllegalArgumentException, UnsupportedOperationException {
        if (!isSet(needs) || !isSet(shows)) {
            throw new IllegalArgumentException("no set of skills");
        }
        if (tasksMade >= MOST_TASKS) {
            throw new UnsupportedOperationException("there are 10 tasks");
        }
        tasks[tasksMade] = new Task(needs, shows);
        tasksMade++;
        return tasksMade - 1;
    }

    public int world(int task, int a, int b, int r) throws IndexOutOfBoundsException {
        return taskAt(task).addWorld(a, b, r);
    }

    public int attempt(int task, int learner, boolean hinted) throws IndexOutOfBoundsException, IllegalStateException {
        Task tried = taskAt(task);
        Learner trying = learnerAt(learner);
        Program program = programOnSlate();
        if (tried.worlds == 0) {
            return NONE;
        }
        triesMade++;
        int shown = 0;
        for (int i = 0; i < tried.worlds; i++) {
            machine.execute(program, tried.worldA[i], tried.worldB[i]);
            if (machine.ending != ENDED_DONE || machine.result() != tried.worldR[i]) {
                return 1 + i;
            }
            shown |= machine.skills;
        }
        passesMade++;
        if (!tried.isPassedBy(learner)) {
            trying.grow(shown, hinted ? MORE_HINTED : MORE_ALONE);
        }
        tried.keepPass(learner, program);
        return 0;
    }

    public int can(int learner, int skill) throws IndexOutOfBoundsException {
        Learner asked = learnerAt(learner);
        checkSkill(skill);
        return asked.levels[skill];
    }

    public boolean passed(int learner, int task) throws IndexOutOfBoundsException {
        learnerAt(learner);
        return taskAt(task).isPassedBy(learner);
    }

    public int next(int learner) throws IndexOutOfBoundsException {
        Learner asked = learnerAt(learner);
        int able = asked.able();
        int best = NONE;
        int bestGain = NONE;
        for (int i = 0; i < tasksMade; i++) {
            Task each = tasks[i];
            if (each.worlds > 0 && !each.isPassedBy(learner) && each.isOpenTo(able)) {
                int gain = asked.gainOf(each.shows);
                if (gain > bestGain) {
                    best = i;
                    bestGain = gain;
                }
            }
        }
        return best;
    }

    public int wish(int learner, int skill) throws IndexOutOfBoundsException {
        Learner asked = learnerAt(learner);
        checkSkill(skill);
        return path.fewest(tasks, tasksMade, asked.able(), 1 << skill);
    }

    public int look(int task, int what) throws IndexOutOfBoundsException, NoSuchElementException {
        Task asked = taskAt(task);
        checkWhat(what, 4);
        switch (what) {
            case 0:
                return asked.needs;
            case 1:
                return asked.shows;
            case 2:
                return asked.worlds;
            case 3:
                return asked.waysKept;
            default:
                return asked.learnersPassed();
        }
    }

    public int hint(int task, int what) throws IndexOutOfBoundsException, IllegalStateException, NoSuchElementException {
        Task asked = taskAt(task);
        Program program = programOnSlate();
        checkWhat(what, 4);
        int nearest = nearestWay(asked, program);
        if (nearest == NONE || what == 1) {
            return nearest;
        }
        Program way = asked.ways[nearest];
        comparison.compare(program, way);
        int kind = comparison.firstKind(program, way);
        if (what == 0) {
            return comparison.changes;
        }
        if (what == 2 || kind == NONE) {
            return kind;
        }
        if (what == 3) {
            return comparison.begin;
        }
        return kind == STRIKE ? NONE : way.tokenAt(comparison.begin);
    }

    public boolean alike(int task, int a, int b, int tokens) throws IndexOutOfBoundsException {
        Task asked = taskAt(task);
        learnerAt(a);
        learnerAt(b);
        Program one = asked.firstPasses[a];
        Program other = asked.firstPasses[b];
        if (a == b || one == null || other == null) {
            return false;
        }
        return one.size() >= tokens && one.hasShapeOf(other);
    }

    public int token(int i) {
        return slate == null ? NONE : slate.tokenAt(i);
    }

    public int count(int what) {
        switch (what) {
            case 0:
                return tasksMade;
            case 1:
                return slate == null ? 0 : slate.size();
            case 2:
                return programsRead;
            case 3:
                return triesMade;
            case 4:
                return passesMade;
            default:
                return NONE;
        }
    }

    private int nearestWay(Task asked, Program program) {
        int nearest = NONE;
        int fewest = 0;
        for (int i = 0; i < asked.waysKept; i++) {
            comparison.compare(program, asked.ways[i]);
            if (nearest == NONE || comparison.changes < fewest) {
                nearest = i;
                fewest = comparison.changes;
            }
        }
        return nearest;
    }

    private Task taskAt(int number) {
        if (number < 0 || number >= tasksMade) {
            throw new IndexOutOfBoundsException("no such task");
        }
        return tasks[number];
    }

    private Learner learnerAt(int number) {
        if (number < 0 || number >= LEARNERS) {
            throw new IndexOutOfBoundsException("no such learner");
        }
        return learners[number];
    }

    private Program programOnSlate() {
        if (slate == null) {
            throw new IllegalStateException("there is nothing on the slate");
        }
        return slate;
    }

    private static void checkSkill(int skill) {
        if (skill < 0 || skill >= SKILLS) {
            throw new IndexOutOfBoundsException("no such skill");
        }
    }

    private static void checkWhat(int what, int last) {
        if (what < 0 || what > last) {
            throw new NoSuchElementException("no such what");
        }
    }

    private static boolean isSet(int skills) {
        return skills >= 0 && skills < SETS;
    }

    private static int variableOf(int token) {
        switch (token) {
            case 'a':
                return VARIABLE_A;
            case 'b':
                return VARIABLE_B;
            case 'c':
                return 2;
            case 'd':
                return 3;
            case 'r':
                return VARIABLE_R;
            default:
                return NONE;
        }
    }

    private static int levelOf(int token) {
        switch (token) {
            case '<':
                return COMPARE;
            case '+':
            case '-':
                return SUM;
            case '*':
            case '/':
            case '%':
                return TERM;
            default:
                return NONE;
        }
    }

    private static int skillOf(int sign) {
        switch (sign) {
            case '<':
                return SKILL_LESS;
            case '+':
            case '-':
                return SKILL_ADD;
            case '*':
                return SKILL_TIMES;
            default:
                return SKILL_DIVIDE;
        }
    }

    private static final class Tape {
        private final int[] bytes = new int[MOST_BYTES];
        private int size;

        private void append(int four) {
            for (int shift = 24; shift >= 0 && size < MOST_BYTES; shift -= 8) {
                bytes[size] = (four >> shift) & 255;
                size++;
            }
        }

        private boolean hasLetter(int at) {
            return at >= 0 && at < size && bytes[at] >= 'a' && bytes[at] <= 'z';
        }

        private boolean hasDigit(int at) {
            return at >= 0 && at < size && bytes[at] >= '0' && bytes[at] <= '9';
        }

        private boolean hasWord(String word, int from, int length) {
            if (length != word.length() || from < 0 || from + length > size) {
                return false;
            }
            for (int i = 0; i < length; i++) {
                if (bytes[from + i] != word.charAt(i)) {
                    return false;
                }
            }
            return true;
        }
    }

    /** Cuts the text of a tape into TOKENS, up to its end or to the first that is none. */
    private static final class Scanner {
        // Behind the TOKENS stands what ended them, TEXT_END or WRONG, with its place.
        private final int[] tokens = new int[MOST_TOKENS + 1];
        private final int[] begins = new int[MOST_TOKENS + 1];
        private int size;
        private int at;

        private void scan(Tape tape) {
            at = 0;
            boolean going = true;
            for (int i = 0; i <= MOST_TOKENS && going; i++) {
                passBlanks(tape);
                size = i;
                begins[i] = at;
                tokens[i] = takeToken(tape);
                if (i == MOST_TOKENS && tokens[i] != TEXT_END) {
                    tokens[i] = WRONG;
                }
                going = tokens[i] != TEXT_END && tokens[i] != WRONG;
            }
        }

        private void passBlanks(Tape tape) {
            while (at < tape.size && tape.bytes[at] == ' ') {
                at++;
            }
        }

        private int takeToken(Tape tape) {
            if (at >= tape.size) {
                return TEXT_END;
            }
            if (tape.hasLetter(at)) {
                return takeWord(tape);
            }
            if (tape.hasDigit(at)) {
                return takeNumber(tape);
            }
            int sign = tape.bytes[at];
            at++;
            return SIGNS.indexOf((char) sign) >= 0 ? sign : WRONG;
        }

        private int takeWord(Tape tape) {
            int from = at;
            while (at < tape.size && tape.hasLetter(at)) {
                at++;
            }
            int length = at - from;
            if (length == 1) {
                int letter = tape.bytes[from];
                return variableOf(letter) == NONE ? WRONG : letter;
            }
            if (tape.hasWord("while", from, length)) {
                return WHILE;
            }
            if (tape.hasWord("if", from, length)) {
                return IF;
            }
            return tape.hasWord("else", from, length) ? ELSE : WRONG;
        }

        private int takeNumber(Tape tape) {
            int from = at;
            int value = 0;
            while (at < tape.size && tape.hasDigit(at)) {
                value = value * 10 + tape.bytes[at] - '0';
                at++;
            }
            return at - from > MOST_DIGITS ? WRONG : NUMBER + value;
        }
    }

    /**
     * Reads BLOCKS, DOS and EXPRS off the TOKENS. Each part answers whether it stood there; where one
     * did not, the place stays at the TOKEN that was wrong.
     */
    private static final class Parser {
        private final Scanner scanner = new Scanner();
        private final int[] operations = new int[MOST_OPERATIONS];
        private final int[] operands = new int[MOST_OPERATIONS];
        private int made;
        private int at;

        /** The program, or null where the text is wrong. */
        private Program parse(Tape tape) {
            scanner.scan(tape);
            made = 0;
            at = 0;
            if (!block(0, false) || here() != TEXT_END) {
                return null;
            }
            emit(DONE, 0);
            return new Program(scanner, operations, operands, made);
        }

        private int wrongByte() {
            return at <= MOST_TOKENS ? scanner.begins[at] : NONE;
        }

        private boolean block(int deep, boolean looped) {
            boolean right = doing(deep, looped);
            for (int i = 0; i < MOST_TOKENS && right && here() == ';'; i++) {
                at++;
                right = doing(deep, looped);
            }
            return right;
        }

        private boolean doing(int deep, boolean looped) {
            int variable = variableOf(here());
            if (variable != NONE) {
                at++;
                emit(STEP, SKILL_SET);
                return take('=') && expression(COMPARE, deep) && emit(STORE, variable);
            }
            if (take(WHILE)) {
                return loop(deep, looped);
            }
            return take(IF) && choice(deep, looped);
        }

        private boolean loop(int deep, boolean looped) {
            int asking = made;
            emit(STEP, looped ? SKILL_WHILE | SKILL_WHILE_WITHIN : SKILL_WHILE);
            if (!expression(COMPARE, deep)) {
                return false;
            }
            int leaving = made;
            emit(SKIP, 0);
            if (!braced(deep, true)) {
                return false;
            }
            emit(JUMP, asking);
            aim(leaving);
            return true;
        }

        private boolean choice(int deep, boolean looped) {
            emit(STEP, SKILL_IF);
            if (!expression(COMPARE, deep)) {
                return false;
            }
            int refusing = made;
            emit(SKIP, 0);
            if (!braced(deep, looped)) {
                return false;
            }
            if (!take(ELSE)) {
                aim(refusing);
                return true;
            }
            int leaving = made;
            emit(JUMP, 0);
            aim(refusing);
            if (!braced(deep, looped)) {
                return false;
            }
            aim(leaving);
            return true;
        }

        private boolean braced(int deep, boolean looped) {
            return deep < MOST_DEEP && take('{') && block(deep + 1, looped) && take('}');
        }

        /** EXPR, SUM and TERM differ by their signs alone, and by EXPR's single one. */
        private boolean expression(int level, int deep) {
            if (level > TERM) {
                return factor(deep);
            }
            boolean right = expression(level + 1, deep);
            int mostSigns = level == COMPARE ? 1 : MOST_TOKENS;
            for (int i = 0; i < mostSigns && right && levelOf(here()) == level; i++) {
                int sign = here();
                at++;
                right = expression(level + 1, deep) && emit(sign, skillOf(sign));
            }
            return right;
        }

        private boolean factor(int deep) {
            int token = here();
            if (token >= NUMBER) {
                at++;
                return emit(PUSH, token - NUMBER);
            }
            int variable = variableOf(token);
            if (variable != NONE) {
                at++;
                return emit(LOAD, variable);
            }
            return deep < MOST_DEEP && take('(') && expression(COMPARE, deep + 1) && take(')');
        }

        /** What stands at the place; it never goes behind what ended the TOKENS. */
        private int here() {
            return at <= MOST_TOKENS ? scanner.tokens[at] : WRONG;
        }

        private boolean take(int token) {
            if (at > MOST_TOKENS || scanner.tokens[at] != token) {
                return false;
            }
            at++;
            return true;
        }

        private boolean emit(int operation, int operand) {
            if (made >= MOST_OPERATIONS) {
                return false;
            }
            operations[made] = operation;
            operands[made] = operand;
            made++;
            return true;
        }

        /** Lets a jump that was made before its aim was known go to what comes now. */
        private void aim(int jump) {
            if (jump < made) {
                operands[jump] = made;
            }
        }
    }

    /** A program that was read; it never changes, so THE SLATE, RIGHT WAYS and passes may share it. */
    private static final class Program {
        private final int[] tokens;
        private final int[] operations;
        private final int[] operands;
        private final boolean beginsWithD;

        private Program(Scanner scanner, int[] operations, int[] operands, int made) {
            this.tokens = Arrays.copyOf(scanner.tokens, scanner.size);
            this.operations = Arrays.copyOf(operations, made);
            this.operands = Arrays.copyOf(operands, made);
            this.beginsWithD = firstOfCAndD(this.tokens) == 'd';
        }

        private static int firstOfCAndD(int[] tokens) {
            for (int i = 0; i < tokens.length; i++) {
                if (tokens[i] == 'c' || tokens[i] == 'd') {
                    return tokens[i];
                }
            }
            return NONE;
        }

        private int size() {
            return tokens.length;
        }

        private int tokenAt(int i) {
            return i >= 0 && i < tokens.length ? tokens[i] : NONE;
        }

        private int shapeAt(int i) {
            int own = tokenAt(i);
            if (own != 'c' && own != 'd') {
                return own;
            }
            return (own == 'd') == beginsWithD ? 'c' : 'd';
        }

        private boolean hasShapeOf(Program other) {
            if (tokens.length != other.tokens.length) {
                return false;
            }
            for (int i = 0; i < tokens.length; i++) {
                if (shapeAt(i) != other.shapeAt(i)) {
                    return false;
                }
            }
            return true;
        }
    }

    /** Does a RUN; what it came to stands in its fields until the next. */
    private static final class Machine {
        private final int[] variables = new int[VARIABLES];
        private final int[] stack = new int[MOST_TOKENS];
        private int height;
        private int steps;
        private int skills;
        private int ending;
        private boolean going;

        private void execute(Program program, int a, int b) {
            Arrays.fill(variables, 0);
            variables[VARIABLE_A] = a;
            variables[VARIABLE_B] = b;
            height = 0;
            steps = 0;
            skills = 0;
            ending = ENDED_DRY;
            going = true;
            int place = 0;
            for (int i = 0; i < MOST_TURNS && going && place >= 0 && place < program.operations.length; i++) {
                place = turn(program.operations[place], program.operands[place], place + 1);
            }
        }

        private int result() {
            return variables[VARIABLE_R];
        }

        /** The place of the operation that comes behind. */
        private int turn(int operation, int operand, int behind) {
            switch (operation) {
                case DONE:
                    stop(ENDED_DONE);
                    return behind;
                case PUSH:
                    push(operand);
                    return behind;
                case LOAD:
                    push(valueOf(operand));
                    return behind;
                case STORE:
                    store(operand, pop());
                    return behind;
                case STEP:
                    begin(operand);
                    return behind;
                case SKIP:
                    return pop() == 0 ? operand : behind;
                case JUMP:
                    return operand;
                default:
                    skills |= operand;
                    workOut(operation);
                    return behind;
            }
        }

        private int valueOf(int variable) {
            return variable >= 0 && variable < VARIABLES ? variables[variable] : 0;
        }

        private void store(int variable, int value) {
            if (variable >= 0 && variable < VARIABLES) {
                variables[variable] = value;
            }
        }

        private void stop(int how) {
            ending = how;
            going = false;
        }

        private void begin(int skill) {
            if (steps >= MOST_STEPS) {
                stop(ENDED_DRY);
                return;
            }
            steps++;
            skills |= skill;
        }

        private void workOut(int sign) {
            int right = pop();
            int left = pop();
            switch (sign) {
                case '+':
                    push(left + right);
                    return;
                case '-':
                    push(left - right);
                    return;
                case '*':
                    push(left * right);
                    return;
                case '<':
                    push(left < right ? 1 : 0);
                    return;
                default:
                    divide(left, right, sign == '/');
            }
        }

        private void divide(int left, int right, boolean whole) {
            if (right == 0) {
                stop(ENDED_BY_ZERO);
                return;
            }
            push(whole ? left / right : left % right);
        }

        private void push(int value) {
            if (height < stack.length) {
                stack[height] = value;
                height++;
            }
        }

        private int pop() {
            if (height <= 0) {
                return 0;
            }
            height--;
            return stack[height];
        }
    }

    private static final class Task {
        private final int needs;
        private final int shows;
        private final int[] worldA = new int[MOST_WORLDS];
        private final int[] worldB = new int[MOST_WORLDS];
        private final int[] worldR = new int[MOST_WORLDS];
        private final Program[] ways = new Program[MOST_WAYS];
        // null: that LEARNER did not PASS.
        private final Program[] firstPasses = new Program[LEARNERS];
        private int worlds;
        private int waysKept;

        private Task(int needs, int shows) {
            this.needs = needs;
            this.shows = shows;
        }

        private int addWorld(int a, int b, int r) {
            if (worlds >= MOST_WORLDS) {
                return NONE;
            }
            worldA[worlds] = a;
            worldB[worlds] = b;
            worldR[worlds] = r;
            worlds++;
            return worlds - 1;
        }

        private boolean isPassedBy(int learner) {
            return firstPasses[learner] != null;
        }

        private boolean isOpenTo(int able) {
            return (needs & ~able) == 0;
        }

        private int learnersPassed() {
            int sum = 0;
            for (int i = 0; i < LEARNERS; i++) {
                if (firstPasses[i] != null) {
                    sum++;
                }
            }
            return sum;
        }

        private void keepPass(int learner, Program program) {
            if (firstPasses[learner] == null) {
                firstPasses[learner] = program;
            }
            if (waysKept < MOST_WAYS && !hasWayOfShape(program)) {
                ways[waysKept] = program;
                waysKept++;
            }
        }

        private boolean hasWayOfShape(Program program) {
            for (int i = 0; i < waysKept; i++) {
                if (ways[i].hasShapeOf(program)) {
                    return true;
                }
            }
            return false;
        }
    }

    private static final class Learner {
        private final int[] levels = new int[SKILLS];

        private void grow(int shown, int by) {
            for (int i = 0; i < SKILLS; i++) {
                if ((shown >> i & 1) != 0) {
                    levels[i] = Math.min(levels[i] + by, MOST_CAN);
                }
            }
        }

        private int able() {
            int set = 0;
            for (int i = 0; i < SKILLS; i++) {
                if (levels[i] >= ENOUGH_CAN) {
                    set |= 1 << i;
                }
            }
            return set;
        }

        private int gainOf(int shows) {
            int sum = 0;
            for (int i = 0; i < SKILLS; i++) {
                if ((shows >> i & 1) != 0) {
                    sum += MOST_CAN - levels[i];
                }
            }
            return sum;
        }
    }

    /** Looks for WISHES: round by round, which sets of SKILLS can be there after so many TASKS. */
    private static final class Path {
        private final int[] rounds = new int[SETS];

        private int fewest(Task[] tasks, int tasksMade, int able, int wished) {
            Arrays.fill(rounds, NONE);
            rounds[able] = 0;
            for (int round = 0; round <= tasksMade; round++) {
                for (int set = 0; set < SETS; set++) {
                    if (rounds[set] == round) {
                        if ((set & wished) != 0) {
                            return round;
                        }
                        spread(tasks, tasksMade, set);
                    }
                }
            }
            return NONE;
        }

        private void spread(Task[] tasks, int tasksMade, int set) {
            for (int i = 0; i < tasksMade; i++) {
                int reached = set | tasks[i].shows;
                if (tasks[i].isOpenTo(set) && rounds[reached] == NONE) {
                    rounds[reached] = rounds[set] + 1;
                }
            }
        }
    }

    /**
     * CHANGES from one program to another. To pass by TOKENS that are the same never costs a change, so
     * a row of fewest passes by the whole common begin, and the first change stands right behind it.
     */
    private static final class Comparison {
        // Entry j of row i: the CHANGES from TOKEN i on to TOKEN j on; two rows at a time are enough.
        private final int[][] rows = new int[2][MOST_TOKENS + 1];
        private int begin;
        private int changes;

        private void compare(Program from, Program to) {
            begin = 0;
            while (begin < from.size() && begin < to.size() && from.tokens[begin] == to.tokens[begin]) {
                begin++;
            }
            for (int i = from.size(); i >= begin; i--) {
                fillRow(from, to, i);
            }
            changes = rows[begin & 1][begin];
        }

        private void fillRow(Program from, Program to, int i) {
            int[] row = rows[i & 1];
            int[] behind = rows[(i + 1) & 1];
            int fromLeft = from.size() - i;
            row[to.size()] = fromLeft;
            for (int j = to.size() - 1; j >= begin; j--) {
                if (fromLeft == 0) {
                    row[j] = to.size() - j;
                } else if (from.tokens[i] == to.tokens[j]) {
                    row[j] = behind[j + 1];
                } else {
                    row[j] = 1 + Math.min(behind[j + 1], Math.min(row[j + 1], behind[j]));
                }
            }
        }

        /** The kind of the first change between the programs that were compared last. */
        private int firstKind(Program from, Program to) {
            if (changes == 0) {
                return NONE;
            }
            boolean fromGoesOn = begin < from.size();
            boolean toGoesOn = begin < to.size();
            if (fromGoesOn && toGoesOn && rows[(begin + 1) & 1][begin + 1] == changes - 1) {
                return CHANGE;
            }
            return toGoesOn && rows[begin & 1][begin + 1] == changes - 1 ? PUT : STRIKE;
        }
    }
}
