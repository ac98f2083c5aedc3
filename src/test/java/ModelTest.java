import java.util.Random;

/** Random runs of calls, each answer compared with the model's. The seeds are fixed, so every run is the same. */
public final class ModelTest {
    private static final int OBJECTS = Integer.getInteger("objects", 5000);
    private static final int[] CODES = new int[6];
    private static final int[] ERRORS = new int[10];

    public static void main(String[] args) {
        for (int seed = 0; seed < OBJECTS; seed++) {
            oneObject(seed);
        }
        // A generator that reaches only some of the codes and errors would prove little.
        for (int code : new int[] {0, 1, 5}) {
            Check.same("code " + code + " is met often", CODES[code] > 200, true);
        }
        for (int error = 1; error <= 9; error++) {
            Check.same("E" + error + " is met often", ERRORS[error] > 20, true);
        }
        Check.end();
    }

    private static void oneObject(int seed) {
        Random random = new Random(seed);
        Scribe scribe = new Scribe(random);
        PeerScripts x = new PeerScripts();
        Model m = new Model();
        StringBuilder story = new StringBuilder("seed " + seed);
        for (int round = 0; round < 4; round++) {
            if (random.nextInt(3) == 0) {
                x.wipe();
                m.wipe();
                story.append(" wipe");
            }
            if (random.nextInt(6) == 0) {
                x.reset();
                m.reset();
                story.append(" reset");
            }
            rules(random, x, m, story);
            String text = random.nextInt(5) == 0 ? scribe.noise() : scribe.text();
            for (char c : text.toCharArray()) {
                Check.same(story + " put", x.put(c), m.put(c));
            }
            story.append(" {{").append(m.text).append("}}");
            int fuel = random.nextInt(4) == 0 ? random.nextInt(12) : 100 - random.nextInt(30);
            story.append(" run ").append(fuel);
            int code = x.run(fuel);
            Check.same(story.toString(), code, m.run(fuel));
            compare(story.toString(), x, m);
            count(code, m.result);
        }
    }

    private static void rules(Random random, PeerScripts x, Model m, StringBuilder story) {
        int many = random.nextInt(6);
        for (int i = 0; i < many; i++) {
            int state = random.nextInt(3);
            int on = random.nextInt(3) > 0 ? 0 : "abot5".charAt(random.nextInt(5));
            int says = random.nextInt(4) == 0 ? 0 : "abok".charAt(random.nextInt(4));
            int next = random.nextInt(3);
            Check.same("rule", x.rule(state, on, says, next), m.rule(state, on, says, next));
            story.append(" rule ").append(state).append(' ').append(on).append(' ').append(says).append(' ').append(next);
        }
    }

    private static void count(int code, String result) {
        if (code >= 0) {
            CODES[code]++;
        }
        if (code == 1 && result.matches("E[1-9]")) {
            ERRORS[result.charAt(1) - '0']++;
        }
    }

    private static void compare(String story, PeerScripts x, Model m) {
        Check.same(story + " length", x.length(), m.result.length());
        for (int k = 0; k < m.result.length(); k++) {
            Check.same(story + " at " + k, x.at(k), (int) m.result.charAt(k));
        }
        Check.same(story + " used", x.used(), m.given - m.left);
        for (int v = 0; v < 26; v++) {
            String value = m.globals.get("" + (char) ('a' + v));
            Check.same(story + " size " + v, x.size(v), value == null ? -1 : value.length());
            for (int k = 0; value != null && k < value.length(); k++) {
                Check.same(story + " letter " + v, x.letter(v, k), (int) value.charAt(k));
            }
            Check.same(story + " defined " + v, x.defined(v), m.procedures.containsKey("" + (char) ('A' + v)));
        }
        Check.same(story + " peer", x.peer(), m.state);
        Check.same(story + " pending", x.pending(), m.input.length());
        Check.same(story + " buffered", x.buffered(), m.buffer.length());
        Check.same(story + " talk", x.talk(), m.talk.size());
        for (int k = -1; k < 42; k++) {
            boolean there = k >= 0 && k < 40 && k < m.talk.size();
            Check.same(story + " talked " + k, x.talked(k), there ? m.talk.get(m.talk.size() - 1 - k) : 0);
        }
    }
}
