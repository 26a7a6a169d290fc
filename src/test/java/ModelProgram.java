import java.util.ArrayList;
import java.util.List;

/** A PROGRAM as a tree, parsed by descent; all FAULTS are gathered and the least one is told. */
final class ModelProgram {
    int fault;
    int place = -1;
    int depth = -1;
    int steps;
    int refused;
    int x;
    boolean ended;

    private static final class Wrong extends Exception {
        private static final long serialVersionUID = 1L;
    }

    private static final class Stop extends Exception {
        private static final long serialVersionUID = 1L;
    }

    /** A sum's node: a sign with two parts, or a number, or i, or x. */
    private static final class Sum {
        char sign;
        int number;
        Sum left;
        Sum right;
    }

    private static final class Statement {
        String word;
        Sum one;
        Sum two;
        int rounds;
        List<Statement> inside;
    }

    private final String text;
    private final List<Statement> statements = new ArrayList<>();
    private int at;
    private String token;
    private int tokenAt;
    private int tokenEnd;
    private int open;
    private int parens;

    ModelProgram(List<Integer> tape) {
        StringBuilder chars = new StringBuilder();
        for (int one : tape) {
            chars.append((char) one);
        }
        text = chars.toString();
        if (text.length() > 600) {
            note(1, 600, 0);
            return;
        }
        try {
            next();
            block(statements);
            if (!token.isEmpty()) {
                wrong();
            }
        } catch (Wrong e) {
            // It was noted where it was found.
        }
    }

    private void note(int kind, int where, int openThere) {
        if (fault == 0 || where < place || where == place && kind < fault) {
            fault = kind;
            place = where;
            depth = openThere;
        }
    }

    private void wrong() throws Wrong {
        note(1, tokenAt, open);
        throw new Wrong();
    }

    private static boolean wordy(String token) {
        return token != null && token.matches("[a-z]+|[0-9]+");
    }

    private void next() throws Wrong {
        String before = token;
        int beforeEnd = tokenEnd;
        while (at < text.length() && (text.charAt(at) == ' ' || text.charAt(at) == '\n')) {
            at++;
        }
        tokenAt = at;
        if (at == text.length()) {
            token = "";
            return;
        }
        java.util.regex.Matcher matcher = java.util.regex.Pattern.compile("[a-z]+|[0-9]+|[^a-z0-9]", java.util.regex.Pattern.DOTALL)
            .matcher(text);
        matcher.region(at, text.length());
        matcher.lookingAt();
        token = matcher.group();
        at = matcher.end();
        tokenEnd = at;
        boolean known = token.matches("put|as|drop|get|let|for|if|i|x|[0-9]{1,6}|[-+*/%();]|\\[|\\]");
        if (!known || wordy(token) && wordy(before) && beforeEnd == tokenAt) {
            wrong();
        }
    }

    private void expect(String what) throws Wrong {
        if (!token.equals(what)) {
            wrong();
        }
        next();
    }

    private void block(List<Statement> into) throws Wrong {
        while (token.matches("put|drop|get|let|for|if")) {
            Statement statement = new Statement();
            statement.word = token;
            int began = tokenAt;
            next();
            if (statement.word.equals("for")) {
                if (!token.matches("[0-9]+")) {
                    wrong();
                }
                statement.rounds = Integer.parseInt(token);
                if (statement.rounds > 200) {
                    note(2, tokenAt, open);
                }
                next();
            } else {
                statement.one = sum();
            }
            if (statement.word.equals("put")) {
                expect("as");
                statement.two = sum();
            }
            if (statement.word.matches("for|if")) {
                inside(statement, began);
            }
            expect(";");
            into.add(statement);
        }
    }

    private void inside(Statement statement, int began) throws Wrong {
        if (!token.equals("[")) {
            wrong();
        }
        if (open == 5) {
            note(3, began, open);
        }
        open++;
        next();
        statement.inside = new ArrayList<>();
        block(statement.inside);
        if (!token.equals("]")) {
            wrong();
        }
        open--;
        next();
    }

    private Sum sum() throws Wrong {
        Sum left = part();
        while (token.equals("+") || token.equals("-")) {
            left = joined(left, true);
        }
        return left;
    }

    private Sum part() throws Wrong {
        Sum left = unit();
        while (token.equals("*") || token.equals("/") || token.equals("%")) {
            left = joined(left, false);
        }
        return left;
    }

    private Sum joined(Sum left, boolean isSum) throws Wrong {
        Sum sum = new Sum();
        sum.sign = token.charAt(0);
        sum.left = left;
        next();
        sum.right = isSum ? part() : unit();
        return sum;
    }

    private Sum unit() throws Wrong {
        Sum unit = new Sum();
        if (token.matches("[0-9]+")) {
            unit.sign = 'n';
            unit.number = Integer.parseInt(token);
            next();
        } else if (token.equals("i") || token.equals("x")) {
            unit.sign = token.charAt(0);
            next();
        } else if (token.equals("(")) {
            parens++;
            if (parens > 8) {
                note(3, tokenAt, open);
            }
            next();
            unit = sum();
            expectClosing();
        } else {
            wrong();
        }
        return unit;
    }

    private void expectClosing() throws Wrong {
        if (!token.equals(")")) {
            wrong();
        }
        parens--;
        next();
    }

    void run(Model.Table table) {
        try {
            perform(statements, 0, table);
        } catch (Stop e) {
            ended = true;
        }
    }

    private void step() throws Stop {
        if (steps == 300) {
            throw new Stop();
        }
        steps++;
    }

    private void perform(List<Statement> all, int i, Model.Table table) throws Stop {
        for (Statement statement : all) {
            switch (statement.word) {
                case "for":
                    for (int round = 0; round < statement.rounds; round++) {
                        step();
                        perform(statement.inside, round, table);
                    }
                    break;
                case "if":
                    if (value(statement.one, i) > 0) {
                        perform(statement.inside, i, table);
                    }
                    break;
                case "let":
                    step();
                    x = value(statement.one, i);
                    break;
                case "get":
                    step();
                    get(table, value(statement.one, i));
                    break;
                case "put":
                    step();
                    put(table, value(statement.one, i), value(statement.two, i));
                    break;
                default:
                    step();
                    drop(table, value(statement.one, i));
                    break;
            }
        }
    }

    private void get(Model.Table table, int key) {
        if (!Model.isKey(key)) {
            refused++;
            x = -1;
            return;
        }
        table.read(key);
        x = table.map.getOrDefault(key, -1);
    }

    private void put(Model.Table table, int key, int value) {
        if (!Model.isKey(key) || table.map.size() == 160 && !table.map.containsKey(key)) {
            refused++;
            return;
        }
        table.read(key);
        table.put(key, value);
    }

    private void drop(Model.Table table, int key) {
        if (!Model.isKey(key)) {
            refused++;
            return;
        }
        table.read(key);
        if (table.drop(key) == -1) {
            refused++;
        }
    }

    private int value(Sum sum, int i) {
        switch (sum.sign) {
            case 'n': return sum.number;
            case 'i': return i;
            case 'x': return x;
            default: break;
        }
        int left = value(sum.left, i);
        int right = value(sum.right, i);
        switch (sum.sign) {
            case '+': return left + right;
            case '-': return left - right;
            case '*': return left * right;
            case '/': return right == 0 ? 0 : left / right;
            default: return right == 0 ? 0 : left % right;
        }
    }
}
