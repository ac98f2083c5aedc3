import java.util.Random;

/** Writes random texts: mostly whole scripts, some of them spoilt. */
final class Scribe {
    private final Random random;

    Scribe(Random random) {
        this.random = random;
    }

    String text() {
        StringBuilder all = new StringBuilder();
        if (random.nextInt(3) == 0) {
            all.append("p F n {").append(script(2)).append("};");
        }
        int most = 20 + random.nextInt(200);
        while (all.length() < most) {
            all.append(command(3)).append(pick(";", "\n", ";", " ; "));
        }
        if (all.length() > 210) {
            all.setLength(210);
        }
        if (random.nextInt(4) == 0) {
            wrap(all);
        }
        int spoils = random.nextInt(3) == 0 ? 1 + random.nextInt(3) : 0;
        for (int i = 0; i < spoils; i++) {
            spoil(all);
        }
        return all.toString();
    }

    /** Signs in any order: hardly ever a whole script, but each place where one may end is met. */
    String noise() {
        StringBuilder all = new StringBuilder();
        int most = 1 + random.nextInt(30);
        for (int i = 0; i < most; i++) {
            all.append(pick("{", "}", "[", "]", "\"", "\\", "$", " ", ";", "\n", "a", "$a", "l ", "s a ", "k {", "} ", "1", "l [", "x"));
        }
        return all.toString();
    }

    private void wrap(StringBuilder all) {
        String before = pick("l [", "s a [", "s b \"x[", "k {", "? {1} {", "* {1} {b;");
        all.insert(0, before);
        all.append(before.endsWith("[") ? "]" : "}").append(before.contains("\"") ? "\"" : "");
    }

    private void spoil(StringBuilder all) {
        int at = random.nextInt(all.length());
        if (random.nextInt(3) == 0) {
            all.deleteCharAt(at);
        }
        if (random.nextInt(3) > 0 || all.length() == 0) {
            all.insert(Math.min(at, all.length()), pick("{", "}", "[", "]", "\"", "\\", "$", " ", ";", "a", "1", "*"));
        }
    }

    private String pick(String... ones) {
        return ones[random.nextInt(ones.length)];
    }

    private String script(int deep) {
        StringBuilder all = new StringBuilder();
        int many = random.nextInt(3) + (random.nextInt(8) == 0 ? 0 : 1);
        for (int i = 0; i < many; i++) {
            all.append(i == 0 ? "" : ";").append(command(deep - 1));
        }
        return all.toString();
    }

    private String name() {
        return random.nextInt(30) == 0 ? pick("ab", "A", "1", "\"\"") : pick("a", "b", "n", "{a}", "v", "a", "b");
    }

    private String word(int deep) {
        switch (random.nextInt(deep > 0 ? 14 : 10)) {
            case 0: return "$" + name();
            case 1: return "\"" + pick("a b", "x;y", "$a", "]", "\\\"", "a\nb") + pick("", "$b", "ok") + "\"";
            case 2: return "{" + pick("a b", "x", "", "{a}", "$a;[", "aaaaaaaaaaaaaaaaaaaaa") + "}";
            case 3: return pick("-", "") + random.nextInt(5);
            case 4: return pick("a", "b", "ok", "a*", "?", "*o?", "\\$a", "\\]", "a]");
            case 5: return pick("2147483647", "-2147483648", "9999999999", "12345678901", "abcdefghijklmnopqrst");
            case 6: return "$a$b";
            case 7: return "$a" + pick("x", "$a", "1");
            case 8: case 9: return "" + random.nextInt(4);
            case 10: return pick("", "a") + "[" + script(deep - 1) + "]" + pick("", "b", "$a");
            case 11: return "\"x[" + script(deep - 1) + "] \"";
            default: return "[" + command(deep - 1) + "]";
        }
    }

    private String number(int deep) {
        return random.nextInt(8) == 0 ? word(deep) : pick("1", "2", "-1", "5", "$a", "-3");
    }

    private String sum(int deep) {
        switch (random.nextInt(deep > 0 ? 10 : 4)) {
            case 0: case 1: return "" + random.nextInt(4);
            case 2: return "$" + pick("a", "b", "n", "v");
            case 3: return pick("4294967297", "2147483648", "1", "7", "0", "$a", "$", "11111111111");
            case 4: return "(" + sum(deep - 1) + ")";
            case 5: return pick("-", "!", " - ", "!!") + sum(deep - 1);
            default: return sum(deep - 1) + pick("*", "/", "%", "+", "-", "<", ">", "=", "&", "|", " + ", "--") + sum(deep - 1);
        }
    }

    private String braces(int deep) {
        return random.nextInt(40) == 0 ? word(deep) : "{" + script(deep) + "}";
    }

    private String command(int deep) {
        int kind = random.nextInt(deep > 0 ? 20 : 11);
        switch (kind) {
            case 0: return "s " + name() + " " + word(deep);
            case 1: return "s a " + random.nextInt(4);
            case 2: return pick("s ", "g ", "i ", "i ") + name();
            case 3: return "i " + name() + " " + number(deep);
            case 4: return "e {" + sum(3) + "}";
            case 5: return pick("l ", "r ", "x ", "> ", "> ", "F ", "F ", "G ") + word(deep);
            case 6: return "m " + word(deep) + " " + word(deep);
            case 7: return pick("b", "c", "r 1", "x boom", "b 1", "zz", "", "{l} 5", "$a 1");
            case 8: return "> " + pick("a", "ab", "obt5", "abcdefghij0123456789");
            case 9: return random.nextInt(4) == 0 ? deepOne() : "s a 1;s b 2";
            case 10: return pick("s a b c", "l 1 2 3 4 5 6 7 8", "?", "* {1}", "k a", "p", "e 1");
            case 11: return "? {" + sum(2) + "} " + braces(deep - 1) + pick("", " " + braces(deep - 1));
            case 12: return "* {" + pick("$a<3", sum(2), "1", "$a") + "} {" + pick("i a;", "i a -1;", "") + script(deep - 1) + "}";
            case 13: return "p " + pick("F", "G", "H", "f", "F", "{F}") + " " + name() + " " + braces(deep - 1);
            case 14: case 15: return "k " + braces(deep - 1) + pick("", " " + name());
            case 16: case 17: return waiting(deep);
            case 18: return pick("F ", "G ", "H ") + word(deep);
            default: return "s " + name() + " [" + script(deep - 1) + "]";
        }
    }

    /** Scripts inside one another, about as many as there may be. */
    private String deepOne() {
        if (random.nextBoolean()) {
            return pick("p R n {R $n};R 1", "p R n {k {R 1$n} b;s a $n};R 1", "p R n {s a [R $n];l 1};k {R 2} b");
        }
        StringBuilder all = new StringBuilder("l ok");
        int many = 5 + random.nextInt(4);
        for (int i = 0; i < many; i++) {
            if (random.nextBoolean()) {
                all.insert(0, pick("l [", "s a [", "s b \"x[")).append(all.charAt(0) == 's' && all.charAt(2) == 'b' ? "]\"" : "]");
            } else {
                all.insert(0, pick("k {", "? {1} {", "* {1} {b;")).append("}");
            }
        }
        return all.toString();
    }

    private String waiting(int deep) {
        StringBuilder all = new StringBuilder("< ").append(number(deep));
        int many = 1 + random.nextInt(3);
        for (int i = 0; i < many; i++) {
            all.append(' ').append(random.nextInt(6) == 0 ? word(deep) : pick("*ok", "?", "a", "*a", "*b?", "o*", "\"\"", "aa*"));
            all.append(' ').append(braces(deep - 1));
        }
        return all.toString();
    }
}
