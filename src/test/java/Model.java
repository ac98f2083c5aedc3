import java.util.ArrayList;
import java.util.HashMap;
import java.util.HashSet;
import java.util.List;
import java.util.Map;
import java.util.Set;
import java.util.regex.Pattern;

/**
 * The document once more, written as plainly as Java allows, with strings, maps and exceptions: what the program
 * answers is compared with it.
 */
final class Model {
    static final class Stop extends RuntimeException {
        private static final long serialVersionUID = 1L;
        final int code;
        final String value;

        Stop(int code, String value) {
            super("", null, false, false);
            this.code = code;
            this.value = value;
        }
    }

    static final class Word {
        String value = "";
        boolean braced;
    }

    static final class Procedure {
        final String parameter;
        final String script;

        Procedure(String parameter, String script) {
            this.parameter = parameter;
            this.script = script;
        }
    }

    /** null stands for: outside of procedures. */
    static final class Locals {
        final Map<String, String> values = new HashMap<>();
        final Set<String> linked = new HashSet<>();
    }

    static final class Reader {
        final String s;
        int i;

        Reader(String s) {
            this.s = s;
        }

        boolean more() {
            return i < s.length();
        }

        char now() {
            return s.charAt(i);
        }
    }

    String text = "";
    boolean ran;
    Map<String, String> globals = new HashMap<>();
    Map<String, Procedure> procedures = new HashMap<>();
    List<int[]> rules = new ArrayList<>();
    int state;
    String input = "";
    String buffer = "";
    List<Integer> talk = new ArrayList<>();
    String result = "";
    int given;
    int left;

    boolean put(char c) {
        if (!(c >= 32 && c <= 126 || c == 10) || ran || text.length() == 200) {
            return false;
        }
        text += c;
        return true;
    }

    void wipe() {
        text = "";
        ran = false;
        globals.clear();
        procedures.clear();
    }

    boolean rule(int from, int on, int says, int next) {
        boolean states = from >= 0 && from <= 7 && next >= 0 && next <= 7;
        boolean letters = (on == 0 || on >= 32 && on <= 126) && (says == 0 || says >= 32 && says <= 126);
        if (!states || !letters || rules.size() == 20) {
            return false;
        }
        rules.add(new int[] {from, on, says, next});
        return true;
    }

    void reset() {
        rules.clear();
        state = 0;
        input = "";
        buffer = "";
    }

    int run(int fuel) {
        if (fuel < 1 || fuel > 100) {
            return -1;
        }
        ran = true;
        given = fuel;
        left = fuel;
        try {
            result = outermost(() -> script(new Reader(text), null, 1, false));
            return 0;
        } catch (Stop stop) {
            result = stop.value;
            return stop.code;
        }
    }

    interface Work {
        String done();
    }

    static String outermost(Work work) {
        try {
            return work.done();
        } catch (Stop stop) {
            if (stop.code == 2) {
                return stop.value;
            }
            throw stop.code == 3 || stop.code == 4 ? error(9) : stop;
        }
    }

    static Stop error(int number) {
        return new Stop(1, "E" + number);
    }

    void burn() {
        if (left == 0) {
            throw new Stop(5, "");
        }
        left--;
    }

    String script(Reader in, Locals locals, int depth, boolean brackets) {
        if (depth > 8) {
            throw error(8);
        }
        String last = "";
        List<Word> words = new ArrayList<>();
        while (true) {
            boolean end = !in.more();
            boolean closed = !end && brackets && in.now() == ']';
            if (end && brackets) {
                throw error(1);
            }
            if (end || closed || in.now() == ';' || in.now() == '\n') {
                if (!words.isEmpty()) {
                    last = command(words, locals, depth);
                }
                words.clear();
                in.i++;
                if (end || closed) {
                    return last;
                }
            } else if (in.now() == ' ') {
                in.i++;
            } else if (words.size() == 8) {
                throw error(1);
            } else {
                words.add(word(in, locals, depth, brackets));
            }
        }
    }

    Word word(Reader in, Locals locals, int depth, boolean brackets) {
        Word word = new Word();
        if (in.now() == '{') {
            word.braced = true;
            int start = in.i + 1;
            int open = 0;
            do {
                if (!in.more()) {
                    throw error(1);
                }
                open += in.now() == '{' ? 1 : in.now() == '}' ? -1 : 0;
                in.i++;
            } while (open > 0);
            word.value = in.s.substring(start, in.i - 1);
            behind(in, brackets);
        } else if (in.now() == '"') {
            in.i++;
            while (true) {
                if (!in.more()) {
                    throw error(1);
                }
                if (in.now() == '"') {
                    break;
                }
                piece(word, in, locals, depth);
            }
            in.i++;
            behind(in, brackets);
        } else {
            while (in.more() && !ends(in.now(), brackets)) {
                piece(word, in, locals, depth);
            }
        }
        return word;
    }

    static boolean ends(char c, boolean brackets) {
        return " \n;".indexOf(c) >= 0 || brackets && c == ']';
    }

    static void behind(Reader in, boolean brackets) {
        if (in.more() && !ends(in.now(), brackets)) {
            throw error(1);
        }
    }

    void piece(Word word, Reader in, Locals locals, int depth) {
        char c = in.now();
        in.i++;
        String more = "" + c;
        if (c == '\\') {
            if (!in.more()) {
                throw error(1);
            }
            more = "" + in.now();
            in.i++;
        } else if (c == '$' && in.more() && in.now() >= 'a' && in.now() <= 'z') {
            more = get("" + in.now(), locals);
            in.i++;
        } else if (c == '[') {
            more = script(in, locals, depth + 1, true);
        }
        word.value += more;
        if (word.value.length() > 20) {
            throw error(7);
        }
    }

    Map<String, String> home(String name, Locals locals) {
        return locals == null || locals.linked.contains(name) ? globals : locals.values;
    }

    String get(String name, Locals locals) {
        String value = home(name, locals).get(name);
        if (value == null) {
            throw error(4);
        }
        return value;
    }

    static int number(String value) {
        if (!value.matches("-?[0-9]{1,10}")) {
            throw error(5);
        }
        return (int) Long.parseLong(value);
    }

    void form(List<Word> words, String... forms) {
        String form = null;
        for (String each : forms) {
            if (each.length() == words.size() - 1) {
                form = each;
            }
        }
        if (form == null) {
            throw error(3);
        }
        for (int i = 0; i < form.length(); i++) {
            if ("wc".indexOf(form.charAt(i)) >= 0 && !words.get(i + 1).braced) {
                throw error(3);
            }
        }
        for (int i = 0; i < form.length(); i++) {
            String value = words.get(i + 1).value;
            char kind = form.charAt(i);
            if (kind == 'v' && !value.matches("[a-z]")) {
                throw error(4);
            }
            if (kind == 'n') {
                number(value);
            }
            if ((kind == 'x' || kind == 'P') && value.length() > 20) {
                throw error(7);
            }
            if (kind == 'P' && !value.matches("[A-Z]")) {
                throw error(4);
            }
        }
    }

    String command(List<Word> words, Locals locals, int depth) {
        burn();
        String name = words.get(0).value;
        if (name.matches("[A-Z]") && procedures.containsKey(name)) {
            form(words, "x");
            return call(procedures.get(name), words.get(1).value, depth);
        }
        if (name.length() != 1 || "sielm?*pgrbcxk><".indexOf(name.charAt(0)) < 0) {
            throw error(2);
        }
        switch (name) {
            case "s": form(words, "v", "vx"); break;
            case "i": form(words, "v", "vn"); break;
            case "e": form(words, "c"); break;
            case "m": form(words, "xx"); break;
            case "?": form(words, "cw", "cww"); break;
            case "*": form(words, "cw"); break;
            case "p": form(words, "Pvw"); break;
            case "g": form(words, "v"); break;
            case "b": case "c": form(words, ""); break;
            case "k": form(words, "w", "wv"); break;
            case "<": form(words, "nxw", "nxwxw", "nxwxwxw"); break;
            default: form(words, "x"); break;
        }
        String[] a = new String[words.size()];
        for (int i = 0; i < a.length; i++) {
            a[i] = words.get(i).value;
        }
        return done(name, a, locals, depth);
    }

    String done(String name, String[] a, Locals locals, int depth) {
        switch (name) {
            case "s":
                if (a.length == 3) {
                    home(a[1], locals).put(a[1], a[2]);
                }
                return get(a[1], locals);
            case "i":
                int grown = number(get(a[1], locals)) + (a.length == 3 ? number(a[2]) : 1);
                home(a[1], locals).put(a[1], "" + grown);
                return "" + grown;
            case "e": return "" + new Sum(a[1], locals).worked();
            case "l": return "" + a[1].length();
            case "m": return fits(a[2], a[1]) ? "1" : "0";
            case "?":
                if (new Sum(a[1], locals).worked() != 0) {
                    return script(new Reader(a[2]), locals, depth + 1, false);
                }
                return a.length == 4 ? script(new Reader(a[3]), locals, depth + 1, false) : "";
            case "*": return loop(a, locals, depth);
            case "p": procedures.put(a[1], new Procedure(a[2], a[3])); return "";
            case "g":
                if (locals != null) {
                    locals.linked.add(a[1]);
                }
                return "";
            case "r": throw new Stop(2, a[1]);
            case "b": throw new Stop(3, "");
            case "c": throw new Stop(4, "");
            case "x": throw new Stop(1, a[1]);
            case "k": return caught(a, locals, depth);
            case ">": return sent(a[1]);
            default: return waited(a, locals, depth);
        }
    }

    String loop(String[] a, Locals locals, int depth) {
        while (new Sum(a[1], locals).worked() != 0) {
            burn();
            try {
                script(new Reader(a[2]), locals, depth + 1, false);
            } catch (Stop stop) {
                if (stop.code == 3) {
                    return "";
                }
                if (stop.code != 4) {
                    throw stop;
                }
            }
        }
        return "";
    }

    String caught(String[] a, Locals locals, int depth) {
        int code = 0;
        String value;
        try {
            value = script(new Reader(a[1]), locals, depth + 1, false);
        } catch (Stop stop) {
            if (stop.code == 5) {
                throw stop;
            }
            code = stop.code;
            value = stop.value;
        }
        if (a.length == 3) {
            home(a[2], locals).put(a[2], value);
        }
        return "" + code;
    }

    String call(Procedure procedure, String value, int depth) {
        Locals fresh = new Locals();
        fresh.values.put(procedure.parameter, value);
        return outermost(() -> script(new Reader(procedure.script), fresh, depth + 1, false));
    }

    String sent(String value) {
        if (input.length() + value.length() > 40) {
            throw error(7);
        }
        input += value;
        value.chars().forEach(talk::add);
        return "";
    }

    String waited(String[] a, Locals locals, int depth) {
        int most = number(a[1]);
        int ticks = 0;
        while (true) {
            for (int size = 0; size <= buffer.length(); size++) {
                for (int w = 2; w < a.length; w += 2) {
                    if (fits(buffer.substring(0, size), a[w])) {
                        buffer = buffer.substring(size);
                        return script(new Reader(a[w + 1]), locals, depth + 1, false);
                    }
                }
            }
            if (ticks >= most) {
                return "T";
            }
            burn();
            tick();
            ticks++;
        }
    }

    void tick() {
        int on = 0;
        if (!input.isEmpty()) {
            on = input.charAt(0);
            input = input.substring(1);
        }
        for (int[] rule : rules) {
            if (rule[0] == state && rule[1] == on) {
                if (rule[2] != 0) {
                    talk.add(rule[2] + 256);
                    buffer += buffer.length() < 20 ? "" + (char) rule[2] : "";
                }
                state = rule[3];
                return;
            }
        }
    }

    static boolean fits(String value, String pattern) {
        StringBuilder regex = new StringBuilder();
        for (char c : pattern.toCharArray()) {
            regex.append(c == '*' ? ".*" : c == '?' ? "." : Pattern.quote("" + c));
        }
        return Pattern.compile(regex.toString(), Pattern.DOTALL).matcher(value).matches();
    }

    interface Node {
        int value();
    }

    /** An expression, by descent: first the tree, then the variables, then the value. */
    final class Sum {
        final String s;
        final Locals locals;
        final List<String> names = new ArrayList<>();
        final Map<String, Integer> numbers = new HashMap<>();
        final String[] ranks = {"|", "&", "<>=", "+-", "*/%"};
        int i;

        Sum(String s, Locals locals) {
            this.s = s;
            this.locals = locals;
        }

        int worked() {
            Node tree = level(0, 0);
            if (i < s.length()) {
                throw error(1);
            }
            for (String name : names) {
                numbers.put(name, number(get(name, locals)));
            }
            return tree.value();
        }

        char next() {
            while (i < s.length() && s.charAt(i) == ' ') {
                i++;
            }
            return i < s.length() ? s.charAt(i) : 0;
        }

        Node level(int rank, int open) {
            if (rank == ranks.length) {
                return operand(open);
            }
            Node left = level(rank + 1, open);
            while (next() != 0 && ranks[rank].indexOf(next()) >= 0) {
                char sign = s.charAt(i++);
                Node first = left;
                Node second = level(rank + 1, open);
                left = () -> joined(sign, first.value(), second.value());
            }
            return left;
        }

        Node operand(int open) {
            char c = next();
            i++;
            if (c == '-' || c == '!') {
                Node of = operand(open);
                return c == '-' ? () -> -of.value() : () -> of.value() == 0 ? 1 : 0;
            }
            if (c == '(') {
                if (open == 8) {
                    throw error(1);
                }
                Node inner = level(0, open + 1);
                if (next() != ')') {
                    throw error(1);
                }
                i++;
                next();
                return inner;
            }
            if (c == '$' && i < s.length() && s.charAt(i) >= 'a' && s.charAt(i) <= 'z') {
                String name = "" + s.charAt(i++);
                names.add(name);
                next();
                return () -> numbers.get(name);
            }
            int start = i - 1;
            while (c >= '0' && c <= '9' && i < s.length() && s.charAt(i) >= '0' && s.charAt(i) <= '9') {
                i++;
            }
            if (c < '0' || c > '9' || i - start > 10) {
                throw error(1);
            }
            int number = (int) Long.parseLong(s.substring(start, i));
            next();
            return () -> number;
        }

        int joined(char sign, int a, int b) {
            switch (sign) {
                case '*': return a * b;
                case '+': return a + b;
                case '-': return a - b;
                case '<': return a < b ? 1 : 0;
                case '>': return a > b ? 1 : 0;
                case '=': return a == b ? 1 : 0;
                case '&': return a != 0 & b != 0 ? 1 : 0;
                case '|': return a != 0 | b != 0 ? 1 : 0;
                default:
                    if (b == 0) {
                        throw error(6);
                    }
                    return sign == '/' ? a / b : a % b;
            }
        }
    }
}
