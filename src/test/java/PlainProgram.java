import java.util.ArrayDeque;
import java.util.ArrayList;
import java.util.Deque;
import java.util.HashMap;
import java.util.List;
import java.util.Map;
import java.util.regex.Matcher;
import java.util.regex.Pattern;

/**
 * A program as the document tells it, written in another way than the class: the text is checked by a
 * walk with a stack of what stands open, and a RUN goes over the TOKENS themselves.
 */
final class PlainProgram {
    private static final Pattern TOKEN = Pattern.compile("[a-z]+|[0-9]+|[=<+\\-*/%(){};]");
    private static final Map<String, Integer> WORDS = Map.of("while", 256, "if", 257, "else", 258, "a", 97, "b", 98,
            "c", 99, "d", 100, "r", 114);

    /** How a RUN ends that is not done. */
    private static final class Ended extends RuntimeException {
        private static final long serialVersionUID = 1L;
        private final int how;

        private Ended(int how) {
            this.how = how;
        }
    }

    /** Something that stands open: s, w or i an EXPR of =, while, if; ( one in parentheses; W, I, E a BLOCK. */
    private static final class Open {
        private final char kind;
        private boolean compared;

        private Open(char kind) {
            this.kind = kind;
        }
    }

    final List<Integer> tokens = new ArrayList<>();
    final int fault;
    int ending;
    int steps;
    int skills;
    final Map<Integer, Integer> values = new HashMap<>();
    private int whiles;
    private int at;

    PlainProgram(String text) {
        List<Integer> begins = new ArrayList<>();
        int stopped = cut(text, begins);
        int wrong = firstWrong();
        fault = wrong < tokens.size() ? begins.get(wrong) : wrong > tokens.size() && stopped < 0 ? -1
                : stopped >= 0 ? stopped : text.length();
    }

    /** Where what is no TOKEN begins; -1 if all are. */
    private int cut(String text, List<Integer> begins) {
        int place = 0;
        while (place < text.length()) {
            if (text.charAt(place) == ' ') {
                place++;
                continue;
            }
            Matcher matcher = TOKEN.matcher(text).region(place, text.length());
            if (tokens.size() == 120 || !matcher.lookingAt()) {
                return place;
            }
            String word = matcher.group();
            char first = word.charAt(0);
            if (first >= '0' && first <= '9' && word.length() > 6) {
                return place;
            }
            if (first >= 'a' && first <= 'z' && !WORDS.containsKey(word)) {
                return place;
            }
            tokens.add(first >= '0' && first <= '9' ? Integer.valueOf(1000 + Integer.parseInt(word))
                    : first >= 'a' && first <= 'z' ? WORDS.get(word) : Integer.valueOf(first));
            begins.add(place);
            place = matcher.end();
        }
        return -1;
    }

    /** The first TOKEN that cannot stand there; their number if more must come; one more if all is well. */
    private int firstWrong() {
        Deque<Open> open = new ArrayDeque<>();
        char state = 'D';
        for (int i = 0; i < tokens.size(); i++) {
            state = follow(state, tokens.get(i), open);
            if (state == '!') {
                return i;
            }
        }
        boolean closed = open.isEmpty() || open.size() == 1 && open.peek().kind == 's';
        return closed && "ACI".indexOf(state) >= 0 ? tokens.size() + 1 : tokens.size();
    }

    /** D a DO is due, = that sign, O an operand, A behind one, C behind a BLOCK, I behind that of an if, L { of else. */
    private char follow(char state, int token, Deque<Open> open) {
        switch (state) {
            case 'D':
                return beginDo(token, open);
            case '=':
                return token == '=' ? 'O' : '!';
            case 'O':
                if (token == '(') {
                    return deeper(open, '(', 'O');
                }
                return token >= 1000 || isVariable(token) ? 'A' : '!';
            case 'A':
                return behindOperand(token, open);
            case 'L':
                return token == '{' ? deeper(open, 'E', 'D') : '!';
            default:
                if (token == 258) {
                    return state == 'I' ? 'L' : '!';
                }
                return behindDo(token, open);
        }
    }

    private char beginDo(int token, Deque<Open> open) {
        if (token == 256 || token == 257) {
            open.push(new Open(token == 256 ? 'w' : 'i'));
            return 'O';
        }
        open.push(new Open('s'));
        return isVariable(token) ? '=' : '!';
    }

    private char behindOperand(int token, Deque<Open> open) {
        Open inner = open.peek();
        if ("+-*/%".indexOf(token) >= 0) {
            return 'O';
        }
        if (token == '<') {
            boolean second = inner.compared;
            inner.compared = true;
            return second ? '!' : 'O';
        }
        if (inner.kind == '(') {
            open.pop();
            return token == ')' ? 'A' : '!';
        }
        open.pop();
        if (inner.kind == 's') {
            return behindDo(token, open);
        }
        return token == '{' ? deeper(open, inner.kind == 'w' ? 'W' : 'I', 'D') : '!';
    }

    private char behindDo(int token, Deque<Open> open) {
        if (token == ';') {
            return 'D';
        }
        if (token != '}' || open.isEmpty()) {
            return '!';
        }
        return open.pop().kind == 'I' ? 'I' : 'C';
    }

    private char deeper(Deque<Open> open, char kind, char state) {
        int deep = 0;
        for (Open each : open) {
            deep += "(WIE".indexOf(each.kind) >= 0 ? 1 : 0;
        }
        open.push(new Open(kind));
        return deep >= 10 ? '!' : state;
    }

    private static boolean isVariable(int token) {
        return token < 256 && "abcdr".indexOf(token) >= 0;
    }

    String shape() {
        Map<Integer, String> names = new HashMap<>();
        StringBuilder text = new StringBuilder();
        for (int token : tokens) {
            if (token == 'c' || token == 'd') {
                text.append(names.computeIfAbsent(token, t -> "v" + names.size()));
            } else {
                text.append(token);
            }
            text.append(' ');
        }
        return text.toString();
    }

    void run(int a, int b) {
        values.clear();
        for (char each : "abcdr".toCharArray()) {
            values.put((int) each, each == 'a' ? a : each == 'b' ? b : 0);
        }
        steps = 0;
        skills = 0;
        whiles = 0;
        at = 0;
        try {
            block();
            ending = 0;
        } catch (Ended e) {
            ending = e.how;
        }
    }

    private int peek() {
        return at < tokens.size() ? tokens.get(at) : 0;
    }

    private void step(int skill) {
        if (steps == 1000) {
            throw new Ended(2);
        }
        steps++;
        skills |= skill;
    }

    private void block() {
        doOne();
        while (peek() == ';') {
            at++;
            doOne();
        }
    }

    private void doOne() {
        int first = tokens.get(at++);
        if (first == 256) {
            loop();
        } else if (first == 257) {
            step(32);
            boolean holds = expr() != 0;
            braces(holds);
            if (peek() == 258) {
                at++;
                braces(!holds);
            }
        } else {
            step(1);
            at++;
            values.put(first, expr());
        }
    }

    private void loop() {
        int asking = at;
        boolean holds = true;
        while (holds) {
            at = asking;
            step(whiles > 0 ? 64 | 128 : 64);
            holds = expr() != 0;
            whiles++;
            braces(holds);
            whiles--;
        }
    }

    private void braces(boolean really) {
        at++;
        if (really) {
            block();
            at++;
            return;
        }
        for (int deep = 1; deep > 0; at++) {
            deep += peek() == '{' ? 1 : peek() == '}' ? -1 : 0;
        }
    }

    private int expr() {
        int left = sum();
        if (peek() != '<') {
            return left;
        }
        at++;
        int right = sum();
        skills |= 16;
        return left < right ? 1 : 0;
    }

    private int sum() {
        int value = term();
        while (peek() == '+' || peek() == '-') {
            int sign = tokens.get(at++);
            int right = term();
            skills |= 2;
            value = (int) (sign == '+' ? (long) value + right : (long) value - right);
        }
        return value;
    }

    private int term() {
        int value = factor();
        while (peek() == '*' || peek() == '/' || peek() == '%') {
            int sign = tokens.get(at++);
            int right = factor();
            skills |= sign == '*' ? 4 : 8;
            if (sign != '*' && right == 0) {
                throw new Ended(1);
            }
            value = (int) (sign == '*' ? (long) value * right : sign == '/' ? (long) value / right
                    : (long) value % right);
        }
        return value;
    }

    private int factor() {
        int token = tokens.get(at++);
        if (token >= 1000) {
            return token - 1000;
        }
        if (token != '(') {
            return values.get(token);
        }
        int value = expr();
        at++;
        return value;
    }
}
