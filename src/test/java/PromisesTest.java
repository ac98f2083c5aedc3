/** For each promise its ordinary inputs, its edges and wrong inputs. */
public final class PromisesTest {
    private static final int NONE = PeerScripts.NONE;
    private static final String A20 = "aaaaaaaaaaaaaaaaaaaa";

    public static void main(String[] args) {
        promise1NewObject();
        promise2Put();
        promise3Wipe();
        promise4Rule();
        promise5Reset();
        promise6Run();
        promise7And8Result();
        promise9Used();
        promise10And11Variables();
        promise12Defined();
        promise13To15Peer();
        promise16And17Talk();
        Check.end();
    }

    private static void same(String what, Object got, Object want) {
        Check.same(what, got, want);
    }

    private static void promise1NewObject() {
        PeerScripts x = new PeerScripts();
        same("1 length", x.length(), 0);
        same("1 at", x.at(0), 0);
        same("1 used", x.used(), 0);
        for (int v = 0; v < 26; v++) {
            same("1 size", x.size(v), NONE);
            same("1 letter", x.letter(v, 0), 0);
            same("1 defined", x.defined(v), false);
        }
        same("1 peer", x.peer(), 0);
        same("1 pending", x.pending(), 0);
        same("1 buffered", x.buffered(), 0);
        same("1 talk", x.talk(), 0);
        same("1 talked", x.talked(0), 0);
        same("1 the text is empty", new Lab().run(1), "0:/0");
        same("1 there are no rules", Lab.with("< 9 ? {l 1}").run(20), "0:T/10");
    }

    private static void promise2Put() {
        PeerScripts x = new PeerScripts();
        for (int c = 0; c < 300; c++) {
            PeerScripts fresh = new PeerScripts();
            same("2 put " + c, fresh.put((char) c), c >= 32 && c <= 126 || c == 10);
        }
        same("2 put 65535", x.put((char) 65535), false);
        Lab lab = Lab.with("s a 5");
        lab.x.put((char) 9);
        same("2 a refused character changes nothing", lab.run(9), "0:5/1");
        same("2 the text was run", lab.x.put('1'), false);
        same("2 it stays as it was", lab.run(9), "0:5/1");
        same("2 so it is after a second run", lab.x.put('1'), false);
        lab.x.wipe();
        same("2 wiped", lab.x.put('1'), true);
        Lab full = new Lab();
        full.put("l a;".repeat(50));
        same("2 201st", full.x.put('l'), false);
        same("2 all 200 are there", full.run(100), "0:1/50");
        Lab empty = new Lab();
        empty.x.run(0);
        same("2 a run that answers NONE is none", empty.x.put('b'), true);
        Lab none = new Lab();
        none.x.run(1);
        same("2 an empty text can be run, too", none.x.put('b'), false);
    }

    private static void promise3Wipe() {
        Lab lab = Lab.with("s a 1;p F a {b};> xy;< 1 z {b};s b 22");
        lab.x.rule(0, 'x', 'q', 3);
        same("3 before", lab.run(50), "0:22/6");
        lab.x.wipe();
        same("3 result", lab.result() + lab.x.used(), "226");
        same("3 a", lab.x.size(0), NONE);
        same("3 b", lab.x.letter(1, 0), 0);
        same("3 F", lab.x.defined(5), false);
        same("3 state", lab.x.peer(), 3);
        same("3 input", lab.x.pending(), 1);
        same("3 buffer", lab.x.buffered(), 1);
        same("3 talk", lab.x.talk() + lab.latest(3), "3'qyx");
        lab.put("s a");
        same("3 new text", lab.run(50), "1:E4/1");
        lab.say("F 1");
        same("3 no procedure", lab.run(50), "1:E2/1");
        lab.say("");
        same("3 an empty text", lab.run(5), "0:/0");
    }

    private static void promise4Rule() {
        int[][] bad = {{-1, 0, 0, 0}, {8, 0, 0, 0}, {0, 31, 0, 0}, {0, 127, 0, 0}, {0, 10, 0, 0}, {0, -1, 0, 0},
            {0, 1, 0, 0}, {0, 0, 31, 0}, {0, 0, 127, 0}, {0, 0, 10, 0}, {0, 0, -1, 0}, {0, 0, 1, 0}, {0, 0, 0, -1},
            {0, 0, 0, 8}, {Integer.MIN_VALUE, 0, 0, 0}, {0, Integer.MAX_VALUE, 0, 0}};
        int[][] good = {{0, 0, 0, 0}, {7, 32, 126, 7}, {7, 126, 32, 0}, {0, 0, 32, 7}};
        for (int[] r : bad) {
            Lab lab = Lab.with("< 3 ? {l 1}");
            same("4 bad", lab.x.rule(r[0], r[1], r[2], r[3]), false);
            same("4 it is no rule", lab.run(9), "0:T/4");
            same("4 no state", lab.x.peer(), 0);
        }
        for (int[] r : good) {
            same("4 good", new PeerScripts().rule(r[0], r[1], r[2], r[3]), true);
        }
        Lab lab = Lab.with("> a;< 1 ? {b}");
        for (int i = 0; i < 19; i++) {
            same("4 rule " + i, lab.x.rule(1, 'z', 'z', 1), true);
        }
        same("4 a wrong one is refused", lab.x.rule(9, 'a', 'q', 5), false);
        same("4 20th", lab.x.rule(0, 'b', 'q', 5), true);
        same("4 21st", lab.x.rule(0, 'a', 'q', 5), false);
        lab.run(9);
        same("4 the 21st is no rule", lab.x.peer(), 0);
        Lab two = Lab.with("> a;< 1 q {l 333}");
        two.x.rule(1, 'a', 'x', 1);
        two.x.rule(0, 'a', 'q', 4);
        two.x.rule(0, 'a', 'x', 5);
        same("4 the first that is for state and character", two.run(9), "0:3/4");
        same("4 its next state", two.x.peer(), 4);
        Lab behind = Lab.with("> ab;< 2 ?? {l 1}");
        behind.x.rule(0, 'b', '!', 2);
        behind.x.rule(0, 'a', 0, 0);
        same("4 one that says nothing", behind.run(9) + behind.x.buffered() + behind.x.talk(), "0:T/413");
        same("4 next", behind.x.peer(), 2);
    }

    private static void promise5Reset() {
        Lab lab = Lab.with("s a 1;p F a {b};> xyz;< 1 z {b};s b 22");
        lab.x.rule(0, 'x', 'q', 3);
        lab.x.rule(3, 'y', 'r', 0);
        same("5 before", lab.run(50), "0:22/6");
        lab.x.reset();
        same("5 state", lab.x.peer(), 0);
        same("5 input", lab.x.pending(), 0);
        same("5 buffer", lab.x.buffered(), 0);
        same("5 talk", lab.x.talk() + lab.latest(4), "4'qzyx");
        same("5 text", lab.result() + lab.x.used() + lab.variable('a') + lab.x.defined(5), "2261true");
        same("5 still run", lab.x.put('a'), false);
        same("5 the rules are gone", lab.run(50) + lab.x.buffered() + lab.x.peer(), "0:22/600");
        lab.x.reset();
        for (int i = 0; i < 20; i++) {
            same("5 there is room for 20", lab.x.rule(0, 'x', 'q', 1), true);
        }
        lab.x.reset();
        same("5 and again", lab.x.rule(0, 'x', 'q', 1), true);
    }

    private static void promise6Run() {
        for (int fuel : new int[] {0, 101, -1, Integer.MIN_VALUE, Integer.MAX_VALUE}) {
            Lab lab = Lab.with("s a 5");
            same("6 fuel " + fuel, lab.x.run(fuel), NONE);
            same("6 nothing changed", lab.x.size(0), NONE);
            same("6 not run", lab.x.put('5'), true);
            lab.x.run(1);
            same("6 " + fuel + " after a run", lab.x.run(fuel), NONE);
            same("6 the latest run stays", lab.result() + lab.x.used(), "551");
        }
        same("6 1 is enough", Lab.with("s a 5").run(1), "0:5/1");
        same("6 100", Lab.with("* {1} {}").run(100), "5:/100");
        same("6 error", Lab.with("l abc;x boom;l b").run(9), "1:boom/2");
        same("6 return", Lab.with("r abc;l b").run(9), "0:abc/1");
        same("6 break", Lab.with("l a;b;l b").run(9), "1:E9/2");
        same("6 continue", Lab.with("c").run(9), "1:E9/1");
        same("6 out has nothing", Lab.with("l abc;l b").run(1), "5:/1");
        Lab again = Lab.with("? {1} {k {i a} e};s d [k {s a} c];? {$d} {s a 3};s a");
        same("6 first", again.run(50), "0:3/9");
        same("6 variables stay", again.run(50), "0:4/8");
        same("6 once more", again.run(50), "0:5/8");
        Lab twice = Lab.with("k {F 4} a;p F n {r $n$n};s a");
        same("6 no procedure yet", twice.run(9), "0:E2/4");
        same("6 procedures stay", twice.run(9), "0:44/5");
        same("6 only spaces", Lab.with(" ; ;\n ").run(9), "0:/0");
    }

    private static void promise7And8Result() {
        Lab lab = Lab.with("r \"" + A20.substring(1) + "z\"");
        lab.x.run(5);
        same("7 length", lab.x.length(), 20);
        same("8 first", lab.x.at(0), (int) 'a');
        same("8 last", lab.x.at(19), (int) 'z');
        same("8 behind", lab.x.at(20), 0);
        same("8 far behind", lab.x.at(Integer.MAX_VALUE), 0);
        same("8 before", lab.x.at(-1), 0);
        same("8 far before", lab.x.at(Integer.MIN_VALUE), 0);
        lab.x.run(0);
        same("7 NONE leaves it", lab.x.length(), 20);
        lab.say("r ab");
        same("7 a text that was not run shows the latest run", lab.x.length(), 20);
        lab.x.run(5);
        same("7 now", lab.x.length(), 2);
        same("8 now", lab.x.at(1), (int) 'b');
        same("8 nothing of the former", lab.x.at(2), 0);
        lab.say("l b;p F n {b}");
        lab.x.run(5);
        same("7 nothing", lab.x.length(), 0);
        same("8 nothing", lab.x.at(0), 0);
        lab.say("zz");
        lab.x.run(5);
        same("7 error", lab.result(), "E2");
    }

    private static void promise9Used() {
        same("9 commands", Lab.with("l a;l [l [l b]];s c 1").run(50), "0:1/5");
        same("9 turns", Lab.with("s a 3;* {$a} {i a -1}").run(50), "0:/8");
        same("9 ticks", Lab.with("< 7 x {b}").run(50), "0:T/8");
        same("9 out in a command", Lab.with("l a;l a;l a").run(2), "5:/2");
        same("9 out in a turn", Lab.with("* {1} {}").run(4), "5:/4");
        same("9 out in a tick", Lab.with("< 9 x {b}").run(4), "5:/4");
        same("9 just enough ticks", Lab.with("< 9 x {b}").run(10), "0:T/10");
        same("9 one short", Lab.with("< 9 x {b}").run(9), "5:/9");
        same("9 a command that fails costs, too", Lab.with("zz").run(5), "1:E2/1");
        same("9 one whose words fail does not", Lab.with("s a $b").run(5), "1:E4/0");
        same("9 nor one without ]", Lab.with("l [l b").run(5), "1:E1/0");
        same("9 nor one without words", Lab.with(";;\n l a;;").run(5), "0:1/1");
        Lab lab = Lab.with("l a");
        lab.run(5);
        lab.x.run(101);
        same("9 NONE is no run", lab.x.used(), 1);
    }

    private static void promise10And11Variables() {
        Lab lab = Lab.with("s a 5;s z xyz;s m \"\";p F q {s b 1;g y;s y [l 1]};F 1");
        lab.run(50);
        same("10 a", lab.x.size(0), 1);
        same("10 z", lab.x.size(25), 3);
        same("10 empty", lab.x.size(12), 0);
        same("10 a local one", lab.x.size(1), NONE);
        same("10 a parameter", lab.x.size(16), NONE);
        same("10 a linked one", lab.x.size(24), 1);
        for (int v : new int[] {-1, 26, Integer.MIN_VALUE, Integer.MAX_VALUE}) {
            same("10 no name", lab.x.size(v), NONE);
            same("11 no name", lab.x.letter(v, 0), 0);
        }
        same("11 a", lab.x.letter(0, 0), (int) '5');
        same("11 z", lab.variable('z'), "xyz");
        same("11 behind", lab.x.letter(25, 3), 0);
        same("11 before", lab.x.letter(25, -1), 0);
        same("11 far", lab.x.letter(25, Integer.MAX_VALUE) + lab.x.letter(25, Integer.MIN_VALUE), 0);
        same("11 empty", lab.x.letter(12, 0), 0);
        same("11 there is none", lab.x.letter(1, 0), 0);
        lab.say("s a {" + A20 + "};s b $a;s b 7");
        lab.run(50);
        same("10 20", lab.x.size(0), 20);
        same("11 20", lab.variable('a'), A20);
        same("11 a shorter one instead", lab.variable('b') + lab.x.letter(1, 1), "70");
    }

    private static void promise12Defined() {
        Lab lab = Lab.with("p A n {};p Z n {b};k {p a n {}};k {p B 1 {}};p E n {p D n {b}};E 1");
        same("12 run", lab.run(50), "0:/9");
        for (int p = -2; p < 28; p++) {
            same("12 " + p, lab.x.defined(p), p == 0 || p == 25 || p == 4 || p == 3);
        }
        same("12 far", lab.x.defined(Integer.MAX_VALUE) || lab.x.defined(Integer.MIN_VALUE), false);
    }

    private static void promise13To15Peer() {
        Lab lab = Lab.with("> abc;< 1 x {b}");
        lab.x.rule(0, 'a', 'q', 6);
        lab.x.rule(6, 'b', 'r', 7);
        lab.x.rule(7, 0, 's', 7);
        lab.run(50);
        same("13 state", lab.x.peer(), 6);
        same("14 input", lab.x.pending(), 2);
        same("15 buffer", lab.x.buffered(), 1);
        lab.say("< 1 x {b}");
        lab.run(50);
        same("13 next", lab.x.peer(), 7);
        same("14 next", lab.x.pending(), 1);
        same("15 next", lab.x.buffered(), 2);
        lab.run(50);
        same("13 no rule for c", lab.x.peer(), 7);
        same("14 c is taken", lab.x.pending(), 0);
        same("15 nothing said", lab.x.buffered(), 2);
        lab.say("< 50 x {b}");
        lab.run(99);
        same("15 20 are the most", lab.x.buffered(), 20);
        same("16 those lost count", lab.x.talk(), 55);
        lab.say("< 1 qr* {< 1 ??? {l 1}}");
        lab.run(99);
        same("15 what was taken is gone", lab.x.buffered(), 15);
        lab.say("> " + A20 + ";> " + A20 + ";k {> b} e;> \"\"");
        same("14 sent", lab.run(99), "0:/5");
        same("14 40 are the most", lab.x.pending() + lab.variable('e'), "40E7");
        same("16 what had no room was not sent", lab.x.talk(), 95);
        lab.say("< 1 x {b};k {> bc} e;> d");
        lab.run(99);
        same("14 one more", lab.x.pending() + lab.variable('e'), "40E7");
        same("16 one more", lab.x.talk(), 96);
    }

    private static void promise16And17Talk() {
        Lab lab = Lab.with("> ab;< 3 x {b};> \"c\nd\"");
        lab.x.rule(0, 'a', 'A', 0);
        lab.x.rule(0, 0, '.', 0);
        lab.run(50);
        same("16 sent and said", lab.x.talk(), 7);
        same("17 in order", lab.latest(8), "d\nc'.'Aba#");
        same("17 256 more", lab.x.talked(3), 256 + '.');
        same("17 before", lab.x.talked(-1) + lab.x.talked(Integer.MIN_VALUE), 0);
        same("17 behind", lab.x.talked(7) + lab.x.talked(Integer.MAX_VALUE), 0);
        lab.say("> abcdefghijklmnopqrst;> 0123456789ABCDEFGHI");
        lab.x.reset();
        lab.run(50);
        same("16 more", lab.x.talk(), 46);
        same("17 the latest", lab.x.talked(0), (int) 'I');
        same("17 38", lab.x.talked(38), (int) 'a');
        same("17 39", lab.x.talked(39), (int) 'd');
        same("17 40 is too far", lab.x.talked(40), 0);
    }
}
