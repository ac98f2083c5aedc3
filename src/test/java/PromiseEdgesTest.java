/**
 * The boundary cases of the promises, one after another: what is too small, too large, empty, full or refused.
 * Each check says the sentence of the document that it belongs to.
 */
public final class PromiseEdgesTest {
    private static final int NONE = PeerScripts.NONE;
    private static final int LEAST = Integer.MIN_VALUE;
    private static final int MOST = Integer.MAX_VALUE;
    private static final String A20 = "a".repeat(20);

    private static String sentence = "";

    public static void main(String[] args) {
        newObject();
        putCharacters();
        putFull();
        putAfterRun();
        wipeTakesAway();
        wipeLeaves();
        ruleNumbers();
        ruleFull();
        ruleZeros();
        resetTakesAway();
        resetLeaves();
        runFuel();
        runAgain();
        runCodes();
        resultOfNoRun();
        lettersOfResult();
        usedFuel();
        sizesOfVariables();
        lettersOfVariables();
        definedProcedures();
        peerInputAndBuffer();
        talkInAll();
        talkedBefore();
        Check.end();
    }

    private static void of(String words) {
        sentence = words;
    }

    private static void same(String what, Object got, Object want) {
        Check.same("(" + sentence + ") " + what, got, want);
    }

    private static void newObject() {
        of("1: An empty text");
        same("run", new Lab().run(1), "0:/0");
        Lab whole = new Lab();
        whole.put("l a;".repeat(50));
        same("all 200 characters have room", whole.run(100), "0:1/50");
        of("1: no variables, procedures and rules");
        for (char name = 'a'; name <= 'z'; name++) {
            same("variable " + name, Lab.with("s " + name).run(9), "1:E4/1");
        }
        for (char name = 'A'; name <= 'Z'; name++) {
            same("procedure " + name, Lab.with(name + " 1").run(9), "1:E2/1");
        }
        Lab ticking = Lab.with("> ab;< 3 ? {l 1}");
        same("ticks without rules", ticking.run(9) + ticking.x.peer() + ticking.x.buffered(), "0:T/500");
        of("1: the peer is in state 0");
        Lab state = Lab.with("< 1 ? {s a yes}");
        same("peer", state.x.peer(), 0);
        state.x.rule(1, 0, 'x', 1);
        state.x.rule(0, 0, 'y', 0);
        same("the rule for state 0 counts", state.run(9) + state.latest(1), "0:yes/3'y");
        of("1: no result");
        PeerScripts x = new PeerScripts();
        same("length, at, used", x.length() + " " + x.at(0) + " " + x.used(), "0 0 0");
    }

    private static void putCharacters() {
        of("2: false, changing nothing, if it is not 32 .. 126 or 10");
        for (int c : new int[] {0, 9, 11, 13, 31, 127, 128, 255, 256, 256 + 10, 256 + 65, 65535}) {
            Lab lab = Lab.with("l ab");
            same("put " + c, lab.x.put((char) c), false);
            lab.put("c");
            same("nothing changed by " + c, lab.run(9), "0:3/1");
        }
        for (int c : new int[] {33, 64, 125, 126}) {
            Lab lab = Lab.with("r ");
            same("put " + c, lab.x.put((char) c), true);
            same("it is there: " + c, lab.run(9), "0:" + (char) c + "/1");
        }
        Lab space = Lab.with("r {");
        same("put 32", space.x.put(' '), true);
        space.put("}");
        same("32 is there", space.run(9), "0: /1");
        Lab line = Lab.with("r {");
        same("put 10", line.x.put('\n'), true);
        line.put("}");
        same("10 is there", line.run(9), "0:\n/1");
        same("its number", line.x.at(0), 10);
    }

    private static void putFull() {
        of("2: 200 are there");
        Lab lab = new Lab();
        lab.put(" ".repeat(195) + "l ab");
        same("the 200th", lab.x.put('c'), true);
        same("the 201st", lab.x.put('d'), false);
        same("the 202nd", lab.x.put(';'), false);
        same("one that is refused in any case", lab.x.put('\t'), false);
        same("nothing changed", lab.run(9), "0:3/1");
        lab.x.wipe();
        for (int i = 0; i < 200; i++) {
            same("wiped, then put " + i, lab.x.put(' '), true);
        }
        same("full again", lab.x.put(' '), false);
    }

    private static void putAfterRun() {
        of("2: the text was run (till wipe())");
        for (String text : new String[] {"", "r 1", "x 1", "zz", "* {1} {}", "b"}) {
            Lab lab = Lab.with(text);
            lab.x.run(50);
            int used = lab.x.used();
            same("put after " + text, lab.x.put('1'), false);
            lab.x.reset();
            same("reset does not help", lab.x.put('1'), false);
            lab.x.run(50);
            same("nothing changed", lab.x.used(), used);
            lab.x.run(101);
            same("nor does a run that answers NONE", lab.x.put('1'), false);
            lab.x.wipe();
            same("wipe does", lab.x.put('1'), true);
        }
        Lab lab = Lab.with("l a");
        lab.x.run(0);
        same("one that answered NONE did not run it", lab.x.put('b'), true);
        same("it grew", lab.run(9), "0:2/1");
    }

    private static void wipeTakesAway() {
        of("3: The text becomes empty");
        Lab lab = Lab.with("l abc");
        lab.x.wipe();
        same("one that was not run", lab.run(9), "0:/0");
        lab.say("l abc");
        lab.run(9);
        lab.x.wipe();
        same("one that was run", lab.run(9), "0:/0");
        Lab fresh = new Lab();
        fresh.x.wipe();
        same("one that is empty", fresh.run(9), "0:/0");
        of("3: all variables and procedures are gone");
        StringBuilder set = new StringBuilder();
        for (char name = 'a'; name <= 'z'; name++) {
            set.append("s ").append(name).append(" 1;");
        }
        Lab all = Lab.with(set.toString());
        all.run(100);
        same("z is there", all.x.size(25), 1);
        all.x.wipe();
        for (int v = 0; v < 26; v++) {
            same("variable " + v, all.x.size(v), NONE);
            same("letter " + v, all.x.letter(v, 0), 0);
        }
        Lab procedures = Lab.with("p A a {};p M a {};p Z a {}");
        procedures.run(9);
        procedures.x.wipe();
        for (int p = 0; p < 26; p++) {
            same("procedure " + p, procedures.x.defined(p), false);
        }
        procedures.put("Z 1");
        same("it can't be called", procedures.run(9), "1:E2/1");
        procedures.say("l $a");
        same("nor is there a variable", procedures.run(9), "1:E4/0");
    }

    private static Lab talking() {
        Lab lab = Lab.with("s a 1;p F a {b};> xyz;< 2 w {b};s b 22");
        lab.x.rule(0, 'x', 'q', 3);
        lab.x.rule(3, 'y', 'r', 5);
        lab.x.rule(5, 'z', 's', 6);
        same("before", lab.run(50), "0:22/7");
        return lab;
    }

    private static void wipeLeaves() {
        of("3: What is shown of the latest run, the peer and the talk stay.");
        Lab lab = talking();
        lab.x.wipe();
        same("length", lab.x.length(), 2);
        same("at", lab.result(), "22");
        same("used", lab.x.used(), 7);
        same("peer", lab.x.peer(), 5);
        same("pending", lab.x.pending(), 1);
        same("buffered", lab.x.buffered(), 2);
        same("talk", lab.x.talk(), 5);
        same("talked", lab.latest(6), "'r'qzyx#");
        lab.put("< 1 qrs {l 4444}");
        same("the rules, input and buffer", lab.run(9), "0:4/3");
        same("the state", lab.x.peer(), 6);
        Lab error = Lab.with("x no");
        error.run(9);
        error.x.wipe();
        same("an error's result", error.result() + error.x.used(), "no1");
        Lab full = new Lab();
        for (int i = 0; i < 20; i++) {
            full.x.rule(0, 'a', 'b', 0);
        }
        full.x.wipe();
        same("a 21st rule has no room after wipe either", full.x.rule(0, 'a', 'b', 0), false);
    }

    private static void ruleNumbers() {
        of("4: false, changing nothing, if a number is not as said");
        int[] noStates = {-1, 8, 9, 256, LEAST, MOST};
        int[] noLetters = {-1, 1, 10, 31, 127, 128, 256, 256 + 'a', LEAST, MOST};
        for (int wrong : noStates) {
            refused(wrong, 0, 'q', 1);
            refused(0, 0, 'q', wrong);
        }
        for (int wrong : noLetters) {
            refused(0, wrong, 'q', 1);
            refused(0, 0, wrong, 1);
        }
        refused(-1, -1, -1, -1);
        of("4: for a state (0 .. 7) .. and the next state (0 .. 7)");
        for (int state = 0; state < 8; state++) {
            Lab lab = Lab.with("< 1 ? {};< 1 ? {}");
            same("to " + state, lab.x.rule(0, 0, 0, state), true);
            same("from " + state, lab.x.rule(state, 0, '!', (state + 1) % 8), true);
            same("both count", lab.run(9), state == 0 ? "0:T/4" : "0:/4");
            same("peer", lab.x.peer(), state == 0 ? 0 : (state + 1) % 8);
        }
        of("4: a character on (32 .. 126, or 0), that says a character (32 .. 126, or 0 for none)");
        for (int c = 32; c <= 126; c++) {
            Lab lab = Lab.with("> \"\\" + (char) c + "\";< 1 ? {l ok}");
            same("rule " + c, lab.x.rule(0, c, 158 - c, 2), true);
            same("it counts " + c, lab.run(9), "0:2/4");
            same("says " + c, lab.x.talked(0), 256 + 158 - c);
        }
    }

    private static void refused(int state, int on, int says, int next) {
        Lab lab = Lab.with("< 1 ? {l 1}");
        String numbers = state + " " + on + " " + says + " " + next;
        same(numbers, lab.x.rule(state, on, says, next), false);
        same("no rule " + numbers, lab.run(9) + lab.x.peer() + lab.x.talk(), "0:T/200");
        for (int i = 0; i < 20; i++) {
            same("it takes no room", lab.x.rule(0, 0, 'q', 1), true);
        }
    }

    private static void ruleFull() {
        of("4: false, changing nothing, if .. 20 are there");
        Lab lab = Lab.with("> ab;< 2 ? {l 1}");
        for (int i = 0; i < 19; i++) {
            same("rule " + i, lab.x.rule(7, 'a', 'x', 7), true);
        }
        same("the 20th", lab.x.rule(0, 'b', 'y', 2), true);
        same("the 21st", lab.x.rule(0, 'a', 'z', 1), false);
        same("the 22nd", lab.x.rule(0, 'a', 'z', 1), false);
        same("the 20th counts, the 21st does not", lab.run(9) + lab.latest(1) + lab.x.peer(), "0:1/5'y2");
    }

    private static void ruleZeros() {
        of("4: a character on (.. or 0)");
        Lab lab = Lab.with("> x;< 1 ? {l 1};< 1 ? {l 22}");
        lab.x.rule(0, 0, 'q', 4);
        same("0 is not for a character of the input", lab.run(9) + lab.x.peer(), "0:2/64");
        of("4: says a character (.. or 0 for none)");
        Lab silent = Lab.with("> x;< 1 * {l 1};< 1 ? {l 22}");
        silent.x.rule(0, 'x', 0, 4);
        same("nothing is said", silent.run(9) + silent.x.buffered() + silent.x.talk(), "0:T/501");
        same("the state is the next one", silent.x.peer(), 4);
        same("nothing said is no talk", silent.x.talked(0), (int) 'x');
    }

    private static void resetTakesAway() {
        of("5: Takes all rules away; the peer's state becomes 0, input and buffer become empty");
        Lab lab = talking();
        lab.x.reset();
        same("peer", lab.x.peer(), 0);
        same("pending", lab.x.pending(), 0);
        same("buffered", lab.x.buffered(), 0);
        lab.say("> x;< 3 ? {l 1}");
        same("no rule, nothing in the buffer", lab.run(9) + lab.x.peer(), "0:T/50");
        for (int i = 0; i < 20; i++) {
            same("room for rule " + i, lab.x.rule(0, 'y', 'z', 1), true);
        }
        same("but for no more", lab.x.rule(0, 'y', 'z', 1), false);
        lab.say("> " + A20 + ";> " + A20);
        same("room for 40 characters", lab.run(9) + lab.x.pending(), "0:/240");
        lab.x.reset();
        same("a full input is emptied", lab.x.pending(), 0);
        same("and may be filled again", lab.run(9) + lab.x.pending(), "0:/240");
        PeerScripts fresh = new PeerScripts();
        fresh.reset();
        same("on a new object", fresh.peer() + fresh.pending() + fresh.buffered(), 0);
    }

    private static void resetLeaves() {
        of("5: the talk, and all that is of the text, stay");
        Lab lab = talking();
        lab.x.reset();
        same("talk", lab.x.talk() + lab.latest(6), "5'r'qzyx#");
        same("result", lab.result(), "22");
        same("used", lab.x.used(), 7);
        same("variables", lab.variable('a') + lab.variable('b'), "122");
        same("procedures", lab.x.defined(5), true);
        same("it was run", lab.x.put('1'), false);
        same("the text", lab.run(50), "0:22/7");
        same("the talk goes on", lab.x.talk() + lab.latest(9), "8zyx'r'qzyx#");
        Lab unrun = Lab.with("l a");
        unrun.x.reset();
        same("one that was not run may grow", unrun.x.put('b'), true);
        same("from where it was", unrun.run(9), "0:2/1");
    }

    private static void runFuel() {
        of("6: with so much fuel (1 .. 100) .. NONE, changing nothing, if fuel is not as said");
        for (int fuel : new int[] {0, -1, 101, 102, 256 + 5, LEAST, MOST}) {
            Lab lab = Lab.with("s a 5;p F a {};> b;< 1 ? {}");
            lab.x.rule(0, 'b', 0, 1);
            same("run " + fuel, lab.x.run(fuel), NONE);
            same("no run", lab.x.length() + lab.x.used() + lab.x.talk() + lab.x.pending() + lab.x.peer(), 0);
            same("no variable", lab.x.size(0), NONE);
            same("no procedure", lab.x.defined(5), false);
            lab.put(";s b 66");
            same("the text may grow", lab.run(9), "0:66/6");
            same("after a run", lab.x.run(fuel), NONE);
            same("the latest run is shown", lab.result() + lab.x.used(), "666");
            same("the talk did not grow", lab.x.talk(), 1);
        }
        for (int fuel = 1; fuel <= 100; fuel++) {
            same("run " + fuel, Lab.with("* {1} {}").run(fuel), "5:/" + fuel);
        }
        same("1 is enough for one command", Lab.with("l abc").run(1), "0:3/1");
        same("100 for a hundred", Lab.with("* {1} {l ab}").run(100), "5:/100");
    }

    private static void runAgain() {
        of("6: once more, if it was run .. variables and procedures stay from run to run");
        Lab lab = Lab.with("k {G 1} b;k {i a} c;p G n {r yes};s a 5;x no");
        same("first", lab.run(50), "1:no/7");
        same("there is no procedure and no variable", lab.variable('b') + lab.variable('c'), "E2E4");
        same("second", lab.run(50), "1:no/8");
        same("both stayed", lab.variable('b') + lab.variable('c'), "yes6");
        same("third", lab.run(50), "1:no/8");
        lab.x.run(0);
        same("NONE takes nothing away", lab.variable('a') + lab.x.defined(6), "5true");
        Lab out = Lab.with("k {i a} c;k {s a} d;s a 1;l a;l a");
        same("out", out.run(5), "5:/5");
        same("what was done before stays", out.variable('a'), "1");
        same("the next run begins at the beginning, with all its fuel", out.run(7), "0:1/7");
        same("a was grown, shown and set anew", out.variable('c') + out.variable('d') + out.variable('a'), "221");
        of("6: an empty one is OK, with nothing");
        Lab empty = new Lab();
        same("empty", empty.run(1), "0:/0");
        same("again", empty.run(100), "0:/0");
        Lab former = Lab.with("r abc");
        former.run(9);
        former.x.wipe();
        same("nothing of the former run", former.run(9), "0:/0");
    }

    private static void runCodes() {
        of("6: RETURN becomes OK with its result");
        same("r", Lab.with("r {a b};l 1").run(9), "0:a b/1");
        same("r with nothing", Lab.with("l 1;r \"\"").run(9), "0:/2");
        same("in [ ]", Lab.with("l [r 77]").run(9), "0:77/1");
        same("in a loop", Lab.with("* {1} {? {1} {r 77}}").run(9), "0:77/4");
        of("6: BREAK and CONTINUE become ERROR with the result E9");
        same("b", Lab.with("l 1;b;l 1").run(9), "1:E9/2");
        same("c", Lab.with("l 1;c;l 1").run(9), "1:E9/2");
        same("b in [ ]", Lab.with("l [b]").run(9), "1:E9/1");
        same("c in a ?", Lab.with("? {1} {c}").run(9), "1:E9/2");
        of("6: OUT has nothing");
        same("a command", Lab.with("l abc;l abc").run(1), "5:/1");
        same("a turn", Lab.with("l abc;* {1} {l abc}").run(4), "5:/4");
        same("a tick", Lab.with("l abc;< 9 x {}").run(4), "5:/4");
        same("in [ ]", Lab.with("l abc;l [l [l abc]]").run(2), "5:/2");
        same("in a procedure", Lab.with("p F n {l $n;l $n};F abc").run(3), "5:/3");
        same("in a k", Lab.with("s a 7;k {x no;l 1} a;k {l 1}").run(4), "5:/4");
        of("6: ERROR");
        same("its message", Lab.with("x {my words}").run(9), "1:my words/1");
        same("an empty one", Lab.with("l 1;x {}").run(9), "1:/2");
    }

    private static void resultOfNoRun() {
        of("7: 0 if there was none");
        Lab lab = Lab.with("r abc");
        same("length", lab.x.length(), 0);
        lab.x.run(0);
        same("one that answers NONE is none", lab.x.length() + lab.x.at(0), 0);
        lab.x.run(1);
        same("the latest run", lab.x.length(), 3);
        lab.x.run(101);
        same("still the latest", lab.x.length(), 3);
        of("7: How many characters the result of the latest run has");
        same("0", Lab.with("l a;r {}").run(9), "0:/2");
        lab.say("r " + A20);
        lab.run(9);
        same("20", lab.x.length(), 20);
        lab.say("r a" + A20);
        lab.run(9);
        same("an error's two", lab.x.length(), 2);
    }

    private static void lettersOfResult() {
        of("8: 0 if there is none (k below 0, too; so in all calls with k)");
        Lab lab = Lab.with("r 0123456789abcdefghij");
        same("no run", lab.x.at(0), 0);
        lab.run(9);
        same("0", lab.x.at(0), (int) '0');
        same("19", lab.x.at(19), (int) 'j');
        for (int k : new int[] {-1, -20, 20, 21, 40, 256, LEAST, MOST}) {
            same("at " + k, lab.x.at(k), 0);
        }
        lab.say("r xy");
        lab.run(9);
        same("the last of a shorter one", lab.x.at(1), (int) 'y');
        same("behind it, nothing of the longer one", lab.x.at(2), 0);
        lab.say("r {}");
        lab.run(9);
        same("an empty one", lab.x.at(0) + lab.x.at(-1), 0);
    }

    private static void usedFuel() {
        of("9: How much fuel the latest run took, for commands, turns of loops and ticks");
        same("a command", Lab.with("l 1").run(9), "0:1/1");
        same("one that fails", Lab.with("e {1/0}").run(9), "1:E6/1");
        same("a loop without turns", Lab.with("* {0} {l 1}").run(9), "0:/1");
        Lab turns = Lab.with("s a 2;* {$a} {i a -1}");
        same("a loop with two", turns.run(9), "0:/6");
        same("a wait without ticks", Lab.with("< 0 x {}").run(9), "0:T/1");
        same("a wait with two", Lab.with("< 2 x {}").run(9), "0:T/3");
        same("no command", Lab.with("; ;\n").run(9), "0:/0");
        same("never more than there was", Lab.with("* {1} {l 1}").run(3), "5:/3");
        of("9: 0 if there was none (one that answered NONE is none)");
        Lab lab = Lab.with("l 1;l 2");
        same("no run", lab.x.used(), 0);
        lab.x.run(0);
        same("NONE", lab.x.used(), 0);
        lab.x.run(50);
        lab.x.run(-1);
        same("NONE after a run", lab.x.used(), 2);
        lab.x.wipe();
        same("wiped", lab.x.used(), 2);
        lab.x.run(50);
        same("a run that took none", lab.x.used(), 0);
    }

    private static void sizesOfVariables() {
        of("10: (0 for a, .., 25 for z) .. NONE if there is no such variable");
        Lab lab = Lab.with("s a 1;s z 333;s m {};s n " + A20);
        same("before the run", lab.x.size(0), NONE);
        lab.run(9);
        same("a", lab.x.size(0), 1);
        same("z", lab.x.size(25), 3);
        same("m, which is empty", lab.x.size(12), 0);
        same("n, which has 20", lab.x.size(13), 20);
        same("b", lab.x.size(1), NONE);
        same("y", lab.x.size(24), NONE);
        for (int v : new int[] {-1, -26, 26, 27, 97, 256, LEAST, MOST}) {
            same("size " + v, lab.x.size(v), NONE);
        }
        of("10: the global variable");
        Lab local = Lab.with("p F q {s r 1;k {x no} t;g u;s u 22;g w};F 1");
        local.run(20);
        same("a parameter", local.x.size('q' - 'a'), NONE);
        same("a local one", local.x.size('r' - 'a'), NONE);
        same("a local one by k", local.x.size('t' - 'a'), NONE);
        same("a linked one", local.x.size('u' - 'a'), 2);
        same("one that is only linked", local.x.size('w' - 'a'), NONE);
    }

    private static void lettersOfVariables() {
        of("11: The k-th character of that value; 0 if there is none");
        Lab lab = Lab.with("s a 0123456789abcdefghij;s z xy;s m {}");
        same("before the run", lab.x.letter(0, 0), 0);
        lab.run(9);
        same("first", lab.x.letter(0, 0), (int) '0');
        same("last", lab.x.letter(0, 19), (int) 'j');
        same("z", lab.x.letter(25, 1), (int) 'y');
        for (int k : new int[] {-1, 20, 21, 40, LEAST, MOST}) {
            same("letter 0 " + k, lab.x.letter(0, k), 0);
        }
        same("behind z's", lab.x.letter(25, 2) + lab.x.letter(25, -1), 0);
        same("an empty value", lab.x.letter(12, 0) + lab.x.letter(12, -1), 0);
        same("no such variable", lab.x.letter(1, 0) + lab.x.letter(1, -1), 0);
        for (int v : new int[] {-1, 26, 27, 97, LEAST, MOST}) {
            same("letter " + v, lab.x.letter(v, 0) + lab.x.letter(v, 1) + lab.x.letter(v, -1), 0);
        }
    }

    private static void definedProcedures() {
        of("12: Whether there is the procedure p (0 for A, .., 25 for Z)");
        Lab lab = Lab.with("p A n {};p Z n {b};k {p Y n};k {p {B} 1 {}};k {p {b} n {}}");
        same("before the run", lab.x.defined(0), false);
        lab.run(20);
        same("A", lab.x.defined(0), true);
        same("Z", lab.x.defined(25), true);
        same("B, Y, whose p failed", lab.x.defined(1) || lab.x.defined(24), false);
        for (int p : new int[] {-1, -26, 26, 27, 65, 90, 256, LEAST, MOST}) {
            same("defined " + p, lab.x.defined(p), false);
        }
    }

    private static void peerInputAndBuffer() {
        of("13: The peer's state");
        Lab lab = Lab.with("< 1 x {}");
        lab.x.rule(0, 0, 0, 7);
        lab.run(9);
        same("7", lab.x.peer(), 7);
        lab.run(9);
        same("no rule counts: it stays", lab.x.peer(), 7);
        of("14: How many characters the input has");
        Lab full = Lab.with("> " + A20 + ";> " + A20 + ";> a");
        same("full", full.run(9) + full.x.pending(), "1:E7/340");
        full.say("< 1 x {}");
        full.run(9);
        same("a tick takes one, though no rule counts", full.x.pending(), 39);
        full.say("< 50 x {}");
        full.run(99);
        same("empty", full.x.pending(), 0);
        of("15: How many characters the buffer has");
        Lab buffer = Lab.with("< 19 x {}");
        buffer.x.rule(0, 0, 'a', 0);
        buffer.run(99);
        same("19", buffer.x.buffered(), 19);
        buffer.say("< 1 x {}");
        buffer.run(99);
        same("20", buffer.x.buffered(), 20);
        buffer.run(99);
        same("still 20", buffer.x.buffered(), 20);
        buffer.say("< 0 " + A20 + " {}");
        buffer.run(99);
        same("all are taken", buffer.x.buffered(), 0);
    }

    private static void talkInAll() {
        of("16: How many characters were sent and said in all");
        Lab lab = Lab.with("> {};< 1 x {}");
        lab.run(9);
        same("none", lab.x.talk(), 0);
        lab.say("> abc");
        lab.run(9);
        same("sent", lab.x.talk(), 3);
        lab.x.rule(0, 'a', 'A', 0);
        lab.x.rule(0, 'b', 0, 0);
        lab.say("< 3 x {}");
        lab.run(9);
        same("said", lab.x.talk(), 4);
        lab.x.rule(0, 0, '.', 0);
        lab.say("< 30 x {}");
        lab.run(99);
        same("those lost too", lab.x.talk() + " " + lab.x.buffered(), "34 20");
        lab.say("> " + A20 + ";> " + A20 + ";> b");
        lab.run(9);
        same("not those that were refused", lab.x.talk(), 74);
        lab.say("< 0 A* {}");
        lab.run(9);
        same("what is taken from the buffer is no talk", lab.x.talk(), 74);
    }

    private static void talkedBefore() {
        of("17: The k-th before the latest character of the talk (k = 0: the latest, up to 39) .. 0 if there is none");
        Lab lab = Lab.with("> 0123456789abcdefghij");
        same("no talk", lab.x.talked(0), 0);
        lab.run(9);
        same("the latest", lab.x.talked(0), (int) 'j');
        same("the first", lab.x.talked(19), (int) '0');
        same("before the first", lab.x.talked(20), 0);
        lab.x.reset();
        lab.say("> ABCDEFGHIJKLMNOPQRST");
        lab.run(9);
        same("39 with 40", lab.x.talked(39), (int) '0');
        same("40 with 40", lab.x.talked(40), 0);
        lab.say("> !");
        lab.run(9);
        same("0 with 41", lab.x.talked(0), (int) '!');
        same("39 with 41", lab.x.talked(39), (int) '1');
        same("40 with 41: 39 is the most", lab.x.talked(40), 0);
        for (int k : new int[] {-1, -40, 41, 80, 256, LEAST, MOST}) {
            same("talked " + k, lab.x.talked(k), 0);
        }
        of("17: and 256 more if the peer said it");
        lab.x.reset();
        lab.x.rule(0, 'a', 'a', 0);
        lab.say("> a;< 1 a {}");
        lab.run(9);
        same("said", lab.x.talked(0), 256 + 'a');
        same("sent", lab.x.talked(1), (int) 'a');
        same("the older ones move on", lab.x.talked(39), (int) '3');
        same("a newline that was sent", newlineSent(), 10);
        of("16: .. said (those lost too)");
        Lab lost = Lab.with("< 21 b {}");
        for (int i = 0; i < 7; i++) {
            lost.x.rule(i, 0, 'x', i + 1);
        }
        lost.x.rule(7, 0, 'y', 7);
        lost.run(99);
        same("the 21st is shown", lost.x.talked(0) + " " + lost.x.talked(20) + " " + lost.x.talked(21),
            (256 + 'y') + " " + (256 + 'x') + " 0");
        same("20 are there", lost.x.buffered(), 20);
    }

    private static int newlineSent() {
        Lab lab = Lab.with("> \"\n\"");
        lab.run(9);
        return lab.x.talked(0);
    }
}
