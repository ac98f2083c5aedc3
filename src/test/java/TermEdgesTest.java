/**
 * The boundary cases of the document's "Terms", one after another. Each check says the sentence that it belongs to;
 * a text is run with all fuel where no other is named, and answers its code, its result and the fuel used.
 */
public final class TermEdgesTest {
    private static final String A19 = "a".repeat(19);
    private static final String A20 = "a".repeat(20);
    private static final String A21 = "a".repeat(21);

    private static String sentence = "";

    public static void main(String[] args) {
        longValues();
        longBracedWords();
        numbers();
        numbersThatWrap();
        intsAsValues();
        localAndGlobal();
        commandsAndWords();
        ninthWord();
        bracedWords();
        quotedWords();
        bareWords();
        pieces();
        scriptsInBrackets();
        behindWords();
        missingBracket();
        errorsInOrder();
        countsOfWords();
        depthOfScripts();
        leftOutside();
        fuelForCommands();
        fuelForTurnsAndTicks();
        endOfScripts();
        loops();
        procedures();
        links();
        caught();
        expressionForm();
        expressionDepthAndDigits();
        expressionErrorsInOrder();
        expressionWraps();
        emptyPatterns();
        fullInput();
        fullBuffer();
        ticks();
        waits();
        waitsAtTheirEnd();
        Check.end();
    }

    private static void of(String words) {
        sentence = words;
    }

    private static void same(String what, Object got, Object want) {
        Check.same("(" + sentence + ") " + what, got, want);
    }

    private static void due(String text, String want) {
        due(text, 100, want);
    }

    private static void due(String text, int fuel, String want) {
        same(text, Lab.with(text).run(fuel), want);
    }

    private static void longValues() {
        of("VALUES are pieces of text of at most 20 characters");
        due("s a " + A20, "0:" + A20 + "/1");
        due("s a \"" + A20 + "\"", "0:" + A20 + "/1");
        due("s a {" + A20 + "}", "0:" + A20 + "/1");
        due("s a " + A19 + ";s b $a-", "0:" + A19 + "-/2");
        due("s a " + A20 + ";s b $a[s c {}]\"\"", "1:E7/2");
        due("s a " + A20 + ";s b \"\";s c $a$b$b[s d {}]", "0:" + A20 + "/4");
        of("E7: a value of more than 20 characters (in a bare or quoted word as soon as the 21st would come to it)");
        due("s a " + A21, "1:E7/0");
        due("s a \"" + A21 + "\"", "1:E7/0");
        due("s a " + A20 + "\\\\", "1:E7/0");
        due("s a " + A20 + "$", "1:E7/0");
        due("s a " + A20 + ";s b -$a", "1:E7/1");
        due("s a " + A20 + ";s b $a-", "1:E7/1");
        due("s a " + A20 + ";s b -[s a]", "1:E7/2");
        due("s a " + A20 + ";s b [s a]-", "1:E7/2");
        due(A21 + " [x no]", "1:E7/0");
        due("s a " + A21 + "[x no]", "1:E7/0");
        due("s a " + A20 + "[x no]", "1:no/1");
        due("s a \"" + A21, "1:E7/0");
        due("s a \"" + A20, "1:E1/0");
        due("s a " + A20 + "\\", "1:E1/0");
        due("s a " + A20 + "$b", "1:E4/0");
        due("s a " + A20 + "[", "1:E1/0");
        due("k {s a " + A21 + "} e;s e", "0:E7/2");
    }

    private static void longBracedWords() {
        of("x any value (E7 if it is a braced word of more than 20 characters)");
        String[] takers = {"s a @", "l @", "m @ a", "m a @", "r @", "x @", "> @", "< 0 @ {}", "< 0 b {} @ {}",
            "< 0 b {} c {} @ {}", "p F n {};F @"};
        for (String taker : takers) {
            Lab fits = Lab.with(taker.replace("@", "{" + A20 + "}"));
            fits.x.run(100);
            same("20 in " + taker, fits.result().equals("E7"), false);
            due(taker.replace("@", "{" + A21 + "}"), taker.startsWith("p") ? "1:E7/2" : "1:E7/1");
        }
        due("p {" + A21 + "} a {}", "1:E7/1");
        of("it may be used as a script or an expression");
        due("? {1} {l a;l b;l c;l d;l e;l f}", "0:1/7");
        due("e {1+1+1+1+1+1+1+1+1+1+1}", "0:11/1");
        of("v the name of a variable (else E4), n a number (else E5)");
        due("s {" + A21 + "} 1", "1:E4/1");
        due("i a {" + A21 + "}", "1:E5/1");
        due("< {" + A21 + "} a {}", "1:E5/1");
        of("Its first word (however it is written) is its name, of one character (else E2)");
        due("{l} ab", "0:2/1");
        due("\"l\" ab", "0:2/1");
        due("[r l]", "0:l/1");
        due("[s a l] ab", "0:2/2");
        due("\\l ab", "0:2/1");
        due("{} ab", "1:E2/1");
        due("\"\" ab", "1:E2/1");
        due("ll ab", "1:E2/1");
        due("{" + A21 + "} ab", "1:E2/1");
    }

    private static void numbers() {
        of("One is a NUMBER if it is 1 to 10 digits, perhaps with - before them");
        String[][] ones = {{"0", "0"}, {"9", "9"}, {"1234567890", "1234567890"}, {"-1234567890", "-1234567890"},
            {"-1", "-1"}, {"-0", "0"}, {"0000000001", "1"}, {"-0000000001", "-1"}};
        for (String[] one : ones) {
            due("s a " + one[0] + ";i a 0", "0:" + one[1] + "/2");
            due("s a 0;i a " + one[0], "0:" + one[1] + "/2");
            due("s a " + one[0] + ";e {$a}", "0:" + one[1] + "/2");
        }
        String[] none = {"{}", "-", "--1", "1-", "+1", "{ 1}", "{1 }", "{1\n}", "a", "1a", "a1", "1.0", "12345678901",
            "00000000001", "-12345678901", "-00000000001", "/", ":", "-/", "12345678901234567890", "{" + A21 + "}"};
        for (String one : none) {
            due("s a 0;i a " + one, "1:E5/2");
            due("< " + one + " x {}", "1:E5/1");
            if (!one.contains(A21)) {
                due("s a " + one + ";i a", "1:E5/2");
                due("s a " + one + ";i a 1;s a", "1:E5/2");
                due("s a " + one + ";e {$a}", "1:E5/2");
            }
        }
        Lab kept = Lab.with("s a 1x;i a");
        kept.run(9);
        same("what is no number stays", kept.variable('a'), "1x");
    }

    private static void numbersThatWrap() {
        of("the int that they make (wrapping)");
        String[][] ones = {{"2147483647", "2147483647"}, {"2147483648", "-2147483648"}, {"4294967295", "-1"},
            {"4294967296", "0"}, {"4294967297", "1"}, {"9999999999", "1410065407"}, {"-2147483648", "-2147483648"},
            {"-2147483649", "2147483647"}, {"-4294967296", "0"}, {"-9999999999", "-1410065407"}};
        for (String[] one : ones) {
            due("s a " + one[0] + ";i a 0", "0:" + one[1] + "/2");
            due("s a 0;i a " + one[0], "0:" + one[1] + "/2");
            due("s a " + one[0] + ";e {$a}", "0:" + one[1] + "/2");
            due("s a " + one[0] + ";s b $a", "0:" + one[0] + "/2");
        }
        due("< 4294967298 x {}", "0:T/3");
        due("< 2147483648 x {}", "0:T/1");
        due("< 2147483647 x {}", "5:/100");
        of("grows by n (by 1), wrapping; result: the new one");
        due("s a 2147483647;i a", "0:-2147483648/2");
        due("s a -2147483648;i a -1", "0:2147483647/2");
        due("s a -2147483648;i a -2147483648", "0:0/2");
        due("s a 2147483647;i a 2147483647;s a", "0:-2/3");
    }

    private static void intsAsValues() {
        of("An int as a value is written with as few characters as it takes");
        int[] ints = {0, 1, 9, 10, 99, 100, 999999999, 1000000000, Integer.MAX_VALUE, -1, -9, -10, -99, -100, -999999999,
            -1000000000, Integer.MIN_VALUE + 1, Integer.MIN_VALUE};
        for (int one : ints) {
            due("s a " + one + ";i a 0", "0:" + one + "/2");
            due("e {" + one + "}", "0:" + one + "/1");
        }
        due("s a -2147483648;i a 0;l $a", "0:11/3");
        due("l {}", "0:0/1");
        due("l 123456789", "0:9/1");
        due("l 1234567890", "0:10/1");
        due("l " + A20, "0:20/1");
        due("e {00}", "0:0/1");
        due("e {-0}", "0:0/1");
    }

    private static void localAndGlobal() {
        of("every call of a procedure has LOCAL ones of its own");
        due("s b 1;p F a {s b 2;r $b};F 1;s b", "0:1/6");
        due("p F a {k {s b} e;s b 2;r $e};F 1;F 1", "0:E4/11");
        due("p F a {? {$a} {s b 1;F 0;s b};k {s b} c;r $c};F 1", "0:1/13");
        of("VARIABLES have the names a .. z");
        due("s a 1;s z 2;s b $a$z", "0:12/3");
        for (String one : new String[] {"`", "\\{", "A", "Z", "1", "{}", "aa", "\\ ", "$"}) {
            due("s " + one + " 1", "1:E4/1");
            due("s " + one, "1:E4/1");
            due("i " + one, "1:E4/1");
            due("g " + one, "1:E4/1");
            due("k {} " + one, "1:E4/1");
            due("p F " + one + " {}", "1:E4/1");
        }
        of("PROCEDURES have the names A .. Z");
        due("p A a {l ab};A 1", "0:2/3");
        due("p Z a {l ab};Z 1", "0:2/3");
        for (String one : new String[] {"@", "\\[", "a", "z", "1", "{}", "AA", "\\ "}) {
            due("p " + one + " a {}", "1:E4/1");
        }
    }

    private static void commandsAndWords() {
        of("each up to a ; or a newline (10) or the script's end");
        due("l a;l bc", "0:2/2");
        due("l a\nl bc", "0:2/2");
        due("l a\n\n;;\nl bc", "0:2/2");
        due("? {1} {l a}", "0:1/2");
        of("one without words is passed over");
        due("", "0:/0");
        due(" ", "0:/0");
        due(";", "0:/0");
        due("\n", "0:/0");
        due("l ab; ;\n", "0:2/1");
        due("l [ ; ;\n]", "0:0/1");
        due("k { ; } a", "0:0/1");
        due(" ;l ab; ", 1, "0:2/1");
        of("parted by spaces (32)");
        due("   l   ab   ", "0:2/1");
        due("l a b", "1:E3/1");
        of("THE TEXT has at most 200 characters");
        due("r ab" + " ".repeat(196), "0:ab/1");
        due(" ".repeat(196) + "r ab", "0:ab/1");
        due("l ab" + ";".repeat(196), "0:2/1");
    }

    private static void ninthWord() {
        of("a command is a list of WORDS (at most 8)");
        due("< 0 x {} y {} z {}", "0:T/1");
        due("< 0 x {} y {} {} {l ab}", "0:2/2");
        due("l 1 2 3 4 5 6 7", "1:E3/1");
        due("q 1 2 3 4 5 6 7", "1:E2/1");
        due("l 1 2 3 4 5 6 7   ", "1:E3/1");
        due("k {l 1 2 3 4 5 6 7;} a;s a", "0:E3/3");
        of("E1: a ninth word (as soon as it begins)");
        due("l 1 2 3 4 5 6 7 8", "1:E1/0");
        due("q 1 2 3 4 5 6 7 8", "1:E1/0");
        due("l 1 2 3 4 5 6 7 $a", "1:E1/0");
        due("l 1 2 3 4 5 6 7 [x no]", "1:E1/0");
        due("l 1 2 3 4 5 6 7 " + A21, "1:E1/0");
        due("l 1 2 3 4 5 6 7 {", "1:E1/0");
        due("l 1 2 3 4 5 6 $a 8", "1:E4/0");
        due("l 1 2 3 4 5 6 [x no] 8", "1:no/1");
        due("l [l 1 2 3 4 5 6 7]", "1:E3/1");
        due("l [l 1 2 3 4 5 6 7 8]", "1:E1/0");
        due("< 0 x {} y {} z {} {}", "1:E1/0");
        Lab lab = Lab.with("l [s a 1] 2 3 4 5 6 7 8");
        same("the words before it were read", lab.run(9) + lab.variable('a'), "1:E1/11");
    }

    private static void bracedWords() {
        of("{ is BRACED: it goes up to the } that closes this {, those between being counted too");
        due("r {}", "0:/1");
        due("r {{}}", "0:{}/1");
        due("r {{}{{}}}", "0:{}{{}}/1");
        due("r {a}", "0:a/1");
        of("what is between is its value, as it stands");
        due("r {$a[x no]\\\\\" ;\n]}", "0:$a[x no]\\\\\" ;\n]/1");
        due("r {\\}", "0:\\/1");
        due("r {\\{}", "1:E1/0");
        due("r [r {]}]", "0:]/1");
        of("E1: a word that isn't closed");
        due("r {", "1:E1/0");
        due("r {a", "1:E1/0");
        due("r {{}", "1:E1/0");
        due("{", "1:E1/0");
        due("? {1} {r {a} }", "0:a/2");
        due("r [r {]", "1:E1/0");
    }

    private static void quotedWords() {
        of("\" goes up to the next \" that is not part of a \\ or [ ] below");
        due("r \"\"", "0:/1");
        due("r \"a\"", "0:a/1");
        due("r \"\\\"\"", "0:\"/1");
        due("r \"[r2 \"]\"", "1:E1/0");
        due("r \"[s a \"b\"]\"", "0:b/2");
        due("r \"[s a {\"}]\"", "0:\"/2");
        due("r \"<[s a \"]\"]>\"", "0:<]>/2");
        of("spaces, newlines and ; in it are characters like others");
        due("r \" \"", "0: /1");
        due("r \";\n {}]\"", "0:;\n {}]/1");
        due("r [s a \";\n ]\"]", "0:;\n ]/2");
        of("E1: a word that isn't closed");
        due("\"", "1:E1/0");
        due("r \"", "1:E1/0");
        due("r \"a", "1:E1/0");
        due("r \"a\\\"", "1:E1/0");
        due("? {1} {r \"} {\"}", "1:E1/1");
        due("? {1} {r \"}", "1:E1/1");
        due("r [r \"]", "1:E1/0");
    }

    private static void bareWords() {
        of("any other character (BARE): goes up to the next space, newline or ; or to the script's end");
        due("r a", "0:a/1");
        due("r a ", "0:a/1");
        due("r a\n", "0:a/1");
        due("r a;", "0:a/1");
        due("r a{b}\"c\"}", "0:a{b}\"c\"}/1");
        due("r a{b c}", "1:E3/1");
        due("r a\"b c\"", "1:E3/1");
        due("r }", "0:}/1");
        due("r ]", "0:]/1");
        due("r a]b", "0:a]b/1");
        due("r \\\"a", "0:\"a/1");
        due("r \\{a", "0:{a/1");
        due("r $z{", "1:E4/0");
        due("? {1} {r a}", "0:a/2");
    }

    private static void pieces() {
        of("\\ and a character: that character");
        due("r \\ ", "0: /1");
        due("r \\;", "0:;/1");
        due("r \\\n", "0:\n/1");
        due("r \\$a", "0:$a/1");
        due("r \\[a", "0:[a/1");
        due("r \\\\", "0:\\/1");
        due("r [r \\]]", "0:]/1");
        of("E1: a \\ at the end");
        due("\\", "1:E1/0");
        due("r \\", "1:E1/0");
        due("r \"\\", "1:E1/0");
        due("r a\\\\\\", "1:E1/0");
        due("? {1} {r \\}", "1:E1/1");
        due("? {1} {r a\\}", "1:E1/1");
        due("r [r \\]", "1:E1/0");
        of("$ and a .. z: the value of this variable");
        due("s a 1;s z 2;r $a$z", "0:12/3");
        due("s a {};r -$a-", "0:--/2");
        due("s a {$b [x no]};r $a", "0:$b [x no]/2");
        due("r $a", "1:E4/0");
        due("r \"$z\"", "1:E4/0");
        of("any other character: itself");
        due("r $", "0:$/1");
        due("r \"$\"", "0:$/1");
        due("r $`", "0:$`/1");
        due("r ${", "0:${/1");
        due("r $A$Z$1$$", "0:$A$Z$1$$/1");
        due("? {1} {r $}", "0:$/2");
        due("r [r $]", "0:$/1");
    }

    private static void scriptsInBrackets() {
        of("[ a script up to a ] : its result");
        due("l []", "0:0/1");
        due("l [ ]", "0:0/1");
        due("l [;]", "0:0/1");
        due("s a -[]-", "0:--/1");
        due("s a [l ab;l abc;]", "0:3/3");
        due("l [[]]", "1:E2/1");
        of("it ends at the first ] that stands where a bare word, or a command, may end");
        due("s a [l ab]", "0:2/2");
        due("s a [l ab ]", "0:2/2");
        due("s a [l ab\n]", "0:2/2");
        due("s a [l {ab}]", "0:2/2");
        due("s a [l \"ab\"]", "0:2/2");
        due("s a [l [l ab]]", "0:1/3");
        due("s a [l ab]]]", "0:2]]/2");
        due("s a [s b x]y]", "0:xy]/2");
        of("Where a script between [ ] ends at ], a ] elsewhere is a character like others");
        due("s a ]", "0:]/1");
        due("s a [s b \"]\"]", "0:]/2");
        due("s a [s b {]}]", "0:]/2");
        due("s a [s b \\]]", "0:]/2");
        due("s a [? {1} {s b ]}]", "0:]/3");
        due("s a [k {s b ]]} c]$c", "0:0]]/3");
        due("p F n {s a $n]};s a [F 1]", "0:1]/4");
    }

    private static void behindWords() {
        of("Behind a braced or quoted word there must be a space, a newline, a ;, or the end of the script");
        for (String word : new String[] {"{ab}", "\"ab\""}) {
            due("l " + word, "0:2/1");
            due("l " + word + " ", "0:2/1");
            due("l " + word + "\nl a", "0:1/2");
            due("l " + word + ";l a", "0:1/2");
            due("? {1} {l " + word + "}", "0:2/2");
            due("s a [l " + word + "]", "0:2/2");
            due("s a [l " + word + ";]", "0:2/2");
            for (String wrong : new String[] {"a", "]", "{", "}", "\"", "{}", "\"\"", "$", "$z", "\\", "[", "[x no]", "]a"}) {
                due("l " + word + wrong, "1:E1/0");
            }
            due("s a [l " + word + "a]", "1:E1/0");
            due("s a [l " + word + "[x no]]", "1:E1/0");
            due(word + "a", "1:E1/0");
            due("l b " + word + "a", "1:E1/0");
        }
        due("? {1} {l {ab}]}", "1:E1/1");
    }

    private static void missingBracket() {
        of("E1: a [ whose ] is missing (the command that stands at the end there isn't done)");
        due("[", "1:E1/0");
        due("l [", "1:E1/0");
        due("l [ ", "1:E1/0");
        due("l [l ab", "1:E1/0");
        due("l [l ab ", "1:E1/0");
        due("l \"[l ab", "1:E1/0");
        due("l [l [l ab]", "1:E1/1");
        due("l [l ab;", "1:E1/1");
        due("l [l ab;l ab", "1:E1/1");
        due("l [x no", "1:E1/0");
        due("l [x no;", "1:no/1");
        due("l [zz", "1:E1/0");
        due("l [l {ab}", "1:E1/0");
        due("l [l \"ab]", "1:E1/0");
        due("? {1} {l [l ab} {]}", "1:E1/1");
        due("k {l [x no} a;s a", "0:E1/2");
        Lab lab = Lab.with("s a [s b 1;s c 2;s d 3");
        same("b, c, d, a", lab.run(9) + lab.variable('b') + lab.variable('c') + lab.variable('d') + lab.variable('a'),
            "1:E1/212nullnull");
        Lab sent = Lab.with("l [> ab");
        same("nothing is sent", sent.run(9) + sent.x.talk(), "1:E1/00");
    }

    private static void errorsInOrder() {
        of("E2: no such command (A .. Z: no such procedure); that is looked at before all that follows");
        due("q", "1:E2/1");
        due("A", "1:E2/1");
        due("A 1", "1:E2/1");
        due("A 1 2", "1:E2/1");
        due("A {" + A21 + "}", "1:E2/1");
        due("q {" + A21 + "} 2", "1:E2/1");
        for (String one : new String[] {"a", "d", "f", "h", "j", "n", "o", "q", "t", "u", "v", "w", "y", "z", "0", "9",
            "=", "+", "-", "!", "@", "(", "}", "]", "~", "#", "ss", "\\ "}) {
            due(one + " a 1", "1:E2/1");
        }
        of("The number of words, then the braced ones, then the others in their order are looked at before anything else");
        due("? 1", "1:E3/1");
        due("* 1 {} {}", "1:E3/1");
        due("p 1 1 1", "1:E3/1");
        due("k 1 1", "1:E3/1");
        due("k {x no} 1", "1:E4/1");
        due("< z {" + A21 + "} 1", "1:E3/1");
        due("< 1 x {} y 1", "1:E3/1");
        due("< z {" + A21 + "} {}", "1:E5/1");
        due("< 1 {" + A21 + "} {} x 1", "1:E3/1");
        due("s 1 {" + A21 + "}", "1:E4/1");
        due("i 1 z", "1:E4/1");
        due("i a z", "1:E5/1");
        due("i a 1", "1:E4/1");
        due("s a z;i a z", "1:E5/2");
        due("p {" + A21 + "} 1 {}", "1:E7/1");
        due("p 1 1 {}", "1:E4/1");
        due("? {$a+} 1", "1:E3/1");
        due("? {1} {x no} 1", "1:E3/1");
        due("? {1+} {x no}", "1:E1/1");
        Lab lab = Lab.with("< 5 x {} y 1;");
        lab.x.rule(0, 0, 'x', 1);
        same("no tick is made", lab.run(9) + lab.x.peer(), "1:E3/10");
        Lab kept = Lab.with("k {s a 1} A");
        same("k runs nothing", kept.run(9) + kept.variable('a'), "1:E4/1null");
    }

    private static void countsOfWords() {
        of("E3: not as many words as the command takes");
        String[] counts = {"s 23", "i 23", "e 2", "l 2", "m 3", "? 34", "* 3", "p 4", "g 2", "r 2", "b 1", "c 1", "x 2",
            "k 23", "> 2", "< 468"};
        for (String one : counts) {
            String text = one.substring(0, 1);
            for (int words = 1; words <= 8; words++) {
                boolean taken = one.indexOf('0' + words, 2) > 0;
                Lab lab = Lab.with(withWords(text.charAt(0), words));
                lab.x.run(9);
                same(text + " with " + words + " words", lab.result().equals("E3"), !taken);
            }
        }
        due("p F n {l ab};F", "1:E3/2");
        due("p F n {l ab};F 1", "0:2/3");
        due("p F n {l ab};F 1 2", "1:E3/2");
        of("E3: .. or not braced where it must be");
        due("e 1", "1:E3/1");
        due("e \"1\"", "1:E3/1");
        due("e [s a 1]", "1:E3/2");
        due("? \"1\" {l a}", "1:E3/1");
        due("? {1} \"l a\"", "1:E3/1");
        due("? {1} {} \"l a\"", "1:E3/1");
        due("* 0 {}", "1:E3/1");
        due("* {0} b", "1:E3/1");
        due("p F n b", "1:E3/1");
        due("k b", "1:E3/1");
        due("k b a", "1:E3/1");
        due("< 0 x b", "1:E3/1");
        due("< 0 x {} y b", "1:E3/1");
        due("< 0 x {} y {} z b", "1:E3/1");
        due("{s} {a} {1}", "0:1/1");
        due("{<} {0} {x} {}", "0:T/1");
    }

    /** A command of so many words, braced ones all: those serve everywhere. */
    private static String withWords(char name, int words) {
        return name + " {0}".repeat(words - 1);
    }

    private static void depthOfScripts() {
        of("E8: a script that would be the ninth of those that run inside one another (the whole text is the first)");
        due("l [l [l [l [l [l [l [l a]]]]]]]", "0:1/8");
        due("l [l [l [l [l [l [l [l [l a]]]]]]]]", "1:E8/0");
        due("k {k {k {k {k {k {k {x no}}}}}}}", "0:0/8");
        due("k {k {k {k {k {k {k {k {x no}}}}}}}}", "0:0/8");
        due("p F n {k {F 1$n} a;r $a};F 1", "0:E8/13");
        due("p F n {? {$n} {F 1}};F 0", "0:/3");
        due("p F n {F $n};F 1", "1:E8/9");
        due("p F n {g c;i c;F $n};s c 0;k {F 1};s c", "0:6/23");
        of("those in [ ], the w below and those of procedures count");
        String[] ends = {"l []", "? {1} {}", "? {0} {} {}", "* {1} {b}", "k {}", "< 0 {} {}", "F 1"};
        for (String one : ends) {
            Lab eighth = Lab.with("p F n {};" + inside(6, one) + ";s a");
            eighth.x.run(50);
            same("the eighth: " + one, eighth.result().equals("E8"), false);
        }
        for (String one : ends) {
            Lab ninth = Lab.with("p F n {};" + inside(7, one) + ";s a");
            ninth.x.run(50);
            same("the ninth: " + one, ninth.result(), one.startsWith("k") ? "1" : "E8");
        }
        due(inside(7, "? {0} {}") + ";s a", "0:/9");
        due(inside(7, "* {0} {}") + ";s a", "0:/9");
        due(inside(7, "< 0 x {}") + ";s a", "0:T/9");
        due(inside(7, "p F n {}") + ";s a", "0:/9");
        of("ends at once with this error (which is its own: k catches it)");
        due(inside(7, "k {x no} b") + ";s b", "0:E8/9");
        due(inside(7, "k {} b") + ";s a", "0:1/9");
        due(inside(6, "k {k {x no} b;l 5}") + ";s b", "0:E8/10");
        Lab lab = Lab.with(inside(7, "l [> ab]"));
        same("nothing of it is done", lab.run(50) + lab.x.talk(), "0:0/70");
        due("k {x no};" + inside(7, "l [") + ";s a", "0:E8/10");
    }

    /** A text in which this command stands in so many k: the innermost keeps what it catches in a. */
    private static String inside(int many, String command) {
        return "k {".repeat(many - 1) + "k {" + command + "} a" + "}".repeat(many - 1);
    }

    private static void leftOutside() {
        of("E9: BREAK or CONTINUE that leaves a procedure or the whole text");
        due("b", "1:E9/1");
        due("c", "1:E9/1");
        due("p F n {b};F 1", "1:E9/3");
        due("p F n {c};F 1", "1:E9/3");
        due("p F n {? {1} {l [b]}};* {1} {F 1}", "1:E9/6");
        due("p F n {b};s a [k {F 1} b]$b", "0:1E9/5");
        due("s a [k {b} b]$b", "0:3/3");
        due("s a [k {c} b]$b", "0:4/3");
        due("p F n {* {1} {b};l ab};F 1", "0:2/6");
        due("p F n {r 5};* {1} {F 1;b};l ab", "0:2/7");
    }

    private static void fuelForCommands() {
        of("A command that has all its words first costs one FUEL; if there is none left, it ends with OUT and nothing");
        due("l a", 1, "0:1/1");
        due("l a;l a", 1, "5:/1");
        due("l a;l a", 2, "0:1/2");
        due("l a;", 1, "0:1/1");
        due("l [l a]", 1, "5:/1");
        due("l [l a]", 2, "0:1/2");
        due("? {1} {l a}", 1, "5:/1");
        due("? {1} {}", 1, "0:/1");
        due("k {l a}", 1, "5:/1");
        due("p F n {};F 1", 1, "5:/1");
        due("p F n {};F 1", 2, "0:/2");
        due("p F n {l 1};F 1", 2, "5:/2");
        due("l a;zz", 1, "5:/1");
        due("l a;b", 1, "5:/1");
        due("l a;x no", 1, "5:/1");
        due("l a;r no", 1, "5:/1");
        due("l a;l", 1, "5:/1");
        due("l a;s b $z", 1, "1:E4/1");
        due("l a;{", 1, "1:E1/1");
        due("l a;l 2 3 4 5 6 7 8 9", 1, "1:E1/1");
        due("l a;l [l b", 1, "1:E1/1");
        due("l a;l [l b;", 1, "5:/1");
        Lab lab = Lab.with("s a 1;s a 2;> x");
        same("what has no fuel is not done", lab.run(1) + lab.variable('a'), "5:/11");
        same("nor is it sent", lab.run(2) + lab.x.talk(), "5:/20");
        same("with fuel it is", lab.run(3) + lab.x.talk(), "0:/31");
        of("OUT goes on as OUT");
        Lab caught = Lab.with("s a 1;k {k {l a;l a} a} a;l abc");
        same("k", caught.run(4) + caught.variable('a'), "5:/41");
    }

    private static void fuelForTurnsAndTicks() {
        of("as long as c is not 0 one more fuel is taken (OUT if there is none)");
        String twice = "s a 2;* {$a} {i a -1}";
        due(twice, 6, "0:/6");
        due(twice, 5, "5:/5");
        due(twice, 4, "5:/4");
        due(twice, 2, "5:/2");
        due("* {1} {}", 1, "5:/1");
        due("* {1} {b}", 2, "5:/2");
        due("* {1} {b}", 3, "0:/3");
        due("* {0} {}", 1, "0:/1");
        due("s a 1;* {$a} {s a 0}", 4, "0:/4");
        due("l 1;* {1/0} {}", 2, "1:E6/2");
        Lab turn = Lab.with("s a 2;* {$a} {i a -1}");
        same("the second turn has no fuel", turn.run(4) + turn.variable('a'), "5:/41");
        of("otherwise one fuel is taken (OUT if there is none), a tick is made");
        due("< 3 x {}", 4, "0:T/4");
        due("< 3 x {}", 3, "5:/3");
        due("< 1 x {}", 1, "5:/1");
        due("< 1 x {}", 2, "0:T/2");
        due("< 0 x {}", 1, "0:T/1");
        due("< 9 {} {}", 1, "0:/1");
        due("< 99 x {}", "0:T/100");
        due("< 100 x {}", "5:/100");
        Lab tick = Lab.with("> ab;< 2 x {}");
        same("a tick without fuel is not made", tick.run(3) + tick.x.pending(), "5:/31");
        Lab fires = Lab.with("< 9 x {l ab}");
        fires.x.rule(0, 0, 'x', 0);
        same("fires, but its command has no fuel", fires.run(2) + fires.x.buffered(), "5:/20");
        same("fires with enough", fires.run(3), "0:2/3");
    }

    private static void endOfScripts() {
        of("0 OK, with the result of its last command (nothing if it has none)");
        due("", "0:/0");
        due("l ab", "0:2/1");
        due("l ab;g a", "0:/2");
        due("l ab;? {0} {l a}", "0:/2");
        due("l ab;? {1} {}", "0:/2");
        due("l ab;k {}", "0:0/2");
        due("l ab;s a []", "0:/2");
        due("l ab;* {0} {}", "0:/2");
        due("l ab;p F n {l 1}", "0:/2");
        due("p F n {};l ab;F 1", "0:/3");
        due("l ab;> a", "0:/2");
        due("l ab;> {}", "0:/2");
        due("l ab;< 0 {} {}", "0:/2");
        of("as soon as one of its commands (or of scripts in [ ] in it) ends otherwise, with that command's");
        due("l 1;x no;l 1", "1:no/2");
        due("l 1;l [x no];l 1", "1:no/2");
        due("l [x no] [l 1]", "1:no/1");
        due("s a [l [r 5]]7;l 1", "0:5/1");
        due("* {1} {l [b]};l abc", "0:3/4");
        due("s a 2;* {$a} {i a -1;l [c];x no};s a", "0:0/9");
        due("? {1} {r 5};l 1", "0:5/2");
        due("p F n {l [r $n]7;x no};s a -[F 5]", "0:-5/4");
    }

    private static void loops() {
        of("CONTINUE and OK go on, BREAK ends it with OK and nothing, others end it with their code and result");
        due("* {1} {l abc;b}", "0:/4");
        due("s a 1;* {$a} {s a 0;c;x no}", "0:/5");
        due("s a 1;* {$a} {s a 0}", "0:/4");
        due("* {1} {r ab}", "0:ab/3");
        due("* {1} {x ab}", "1:ab/3");
        due("* {1} {* {1} {b};r ab}", "0:ab/6");
        due("l abc;* {0} {}", "0:/2");
        due("* {1+} {}", "1:E1/1");
        due("* {$a} {}", "1:E4/1");
        of("if c is not 0 the first w is run, else the second, if there is one: its code and result");
        due("? {1} {l ab} {l a}", "0:2/2");
        due("? {-1} {l ab} {l a}", "0:2/2");
        due("? {2147483648} {l ab} {l a}", "0:2/2");
        due("? {4294967296} {l ab} {l a}", "0:1/2");
        due("? {0} {l ab} {l a}", "0:1/2");
        due("? {0} {x no}", "0:/1");
        due("? {0} {} {x no}", "1:no/2");
    }

    private static void procedures() {
        of("(instead of one of the same name; calls of that which run go on with their script)");
        due("p F n {r 1};p F m {r $m$m};F 2", "0:22/4");
        due("p F n {p F n {r 2};r 1};s a [F 0][F 0]", "0:12/7");
        due("p F n {r 1};p G n {r 2};F 0", "0:1/4");
        due("s a 2;p F n {g a;* {$a} {i a -1;p F n {x no}};r ok};F 0", "0:ok/12");
        of("calls the procedure (E2 if there is none) with its parameter x");
        due("F 1", "1:E2/1");
        due("p G n {};F 1", "1:E2/2");
        due("p F n {l $n};F {}", "0:0/3");
        due("p F n {l $n};F {" + A20 + "}", "0:20/3");
        due("p F n {l $n};F {" + A21 + "}", "1:E7/2");
        due("p F n {r $n};F {$z [}", "0:$z [/3");
        due("F [p F n {r $n}]1", "0:1/3");
        due("p F n {};F 1", "0:/2");
        of("RETURN becomes OK");
        due("p F n {r 5;x no};F 1;l ab", "0:2/4");
        due("p F n {r 5};s a [k {F 1} b]$b", "0:05/5");
        due("p F n {x 5};s a [k {F 1} b]$b", "0:15/5");
    }

    private static void links() {
        of("links v (outside of procedures nothing");
        due("s a 1;g a;s a", "0:1/3");
        due("g a;s a", "1:E4/2");
        due("g a;p F n {s a 5};F 1;s a", "1:E4/5");
        of("a local value that it had is not seen again");
        due("p F n {s a 5;g a;s a};F 1", "1:E4/5");
        due("s a 7;p F n {s a 5;g a;s a};F 1", "0:7/6");
        due("s n 7;p F n {g n;s n};F 1", "0:7/5");
        due("s n 7;p F n {g n;g n;s n 8};F 1;s n", "0:8/7");
        of("s gives the global one its value, also where there was none");
        due("p F n {g a;s a 5};F 1;s a", "0:5/5");
        due("s a 1;p F n {g a;s a 5};F 1;s a", "0:5/6");
        due("p F n {g a;i a};F 1", "1:E4/4");
        due("p F n {g a;r $a};F 1", "1:E4/3");
        due("p F n {g a;e {$a}};F 1", "1:E4/4");
        of("for names that a procedure linked by g");
        due("p F n {? {$n} {g a};s a $n};F 1;F 2;F 0;s a", "0:2/13");
        due("p G n {s a $n};p F n {g a;G 5;s a $n};F 1;s a", "0:1/8");
        due("p F n {l [g a];s a 5};F 1;s a", "0:5/6");
    }

    private static void caught() {
        of("unless its code is OUT, v (if given) gets its result, and the result is its code, 0 to 4, as a value");
        String[][] ones = {{"l ab", "0", "2", "4"}, {"", "0", "", "3"}, {"x no", "1", "no", "4"}, {"r 5", "2", "5", "4"},
            {"l 1;b", "3", "", "5"}, {"l 1;c", "4", "", "5"}, {"zz", "1", "E2", "4"}, {"\"", "1", "E1", "3"},
            {"x {}", "1", "", "4"}, {"r {}", "2", "", "4"}};
        for (String[] one : ones) {
            Lab lab = Lab.with("s c [k {" + one[0] + "} b];s c");
            same(one[0], lab.run(9), "0:" + one[1] + "/" + one[3]);
            same("v of " + one[0], lab.variable('b'), one[2]);
        }
        due("s b 5;k {x no};s b", "0:5/4");
        Lab out = Lab.with("s b 5;k {l 1;l 1} b");
        same("OUT", out.run(3) + out.variable('b'), "5:/35");
    }

    private static void expressionForm() {
        of("E1: an expression that isn't well formed");
        for (String one : new String[] {"", " ", "   ", "()", "( )", "(", ")", "(1", "1)", "((1)", "(1))", "1 2", "1 1",
            "1+", "+1", "1+ ", "*1", "1**2", "1!2", "!", "-", "1-", "1 -", "$", "$ a", "a", "$A", "$1", "$$a", "$aa", "$a$a",
            "1$a", "$a1", "(1)2", "2(1)", "(1)(1)", "(1)$a", "1=", "1==1", "1<>1", "1|", "||", "&", "1\n", "\n", "1;",
            "1,1", "1.", "\"1\"", "[l a]", "\\1", "1~", "~1", "{1}", "a+1", "1+a", "1+1)", "-1)", "1*2)+3", "(1+1)+1)",
            "1+)", "(1+)", ")1(", "1)+(1", "2*(1+1"}) {
            due("s a 1;e {" + one + "}", "1:E1/2");
            due("s a 1;? {" + one + "} {x no}", "1:E1/2");
        }
        of("spaces before and behind operands and signs say nothing");
        due("s a 4;e {  1  +  ( 2 * $a )  -  ! 0  }", "0:8/2");
        due("e { - 1 }", "0:-1/1");
        due("e {!( 0 )}", "0:1/1");
        of("(between the digits of a number, or behind $, none may stand)");
        due("e {12}", "0:12/1");
        due("e {1 2}", "1:E1/1");
        due("s a 1;e {$ a}", "1:E1/2");
    }

    private static void expressionDepthAndDigits() {
        of("an expression in ( ) (at most 8 open at once)");
        due("e {" + "(".repeat(8) + "1" + ")".repeat(8) + "}", "0:1/1");
        due("e {" + "(".repeat(9) + "1" + ")".repeat(9) + "}", "1:E1/1");
        due("e {" + "(".repeat(8) + "1" + ")".repeat(8) + "+" + "(".repeat(8) + "2" + ")".repeat(8) + "}", "0:3/1");
        due("e {" + "(".repeat(8) + "1" + ")".repeat(8) + "+" + "(".repeat(9) + "2" + ")".repeat(9) + "}", "1:E1/1");
        due("e {" + "(".repeat(7) + "(1)+(2)" + ")".repeat(7) + "}", "0:3/1");
        due("e {" + "(".repeat(8) + "(1)+2" + ")".repeat(8) + "}", "1:E1/1");
        due("e {" + "-(".repeat(8) + "1" + ")".repeat(8) + "}", "0:1/1");
        due("e {" + "(-".repeat(9) + "1" + ")".repeat(9) + "}", "1:E1/1");
        due("e {(1)+(1)+(1)+(1)+(1)+(1)+(1)+(1)+(1)+(1)}", "0:10/1");
        of("Operands are 1 to 10 digits");
        due("e {1234567890}", "0:1234567890/1");
        due("e {12345678901}", "1:E1/1");
        due("e {0000000001}", "0:1/1");
        due("e {00000000001}", "1:E1/1");
        due("e {-1234567890}", "0:-1234567890/1");
        due("e {1+12345678901}", "1:E1/1");
        of("an operand with - or ! (1 if it is 0, else 0) before it");
        due("e {!0}", "0:1/1");
        due("e {!1}", "0:0/1");
        due("e {!-1}", "0:0/1");
        due("e {!-2147483648}", "0:0/1");
        due("e {!4294967296}", "0:1/1");
        due("e {-!-!0}", "0:0/1");
        due("e {" + "-!".repeat(97) + "0}", "0:-1/1");
    }

    private static void expressionErrorsInOrder() {
        of("First E1 if it isn't well formed; then its variables from left to right: E4, E5; then E6");
        due("s a z;e {1/0+$b+$a+}", "1:E1/2");
        due("s a z;e {$a+12345678901}", "1:E1/2");
        due("s a z;e {1/0+$b+$a}", "1:E4/2");
        due("s a z;e {1/0+$a+$b}", "1:E5/2");
        due("s a z;e {$a*($b+1/0)}", "1:E5/2");
        due("s a z;e {-$b*!$a}", "1:E4/2");
        due("s a 1;e {$a/0+$b}", "1:E4/2");
        due("s a 0;e {1/$a}", "1:E6/2");
        of("E6 if there is a division by 0 anywhere in it");
        for (String one : new String[] {"1/0", "0/0", "1%0", "0%0", "0&1/0", "1|1/0", "(1/0)&0", "1/(1-1)", "1/!1", "0*(1/0)",
            "1/(1/2)", "1%(2%2)", "1/4294967296", "-1/-0", "(1/0)/(1/0)", "1/(1/0)", "!(1/0)", "1<1/0", "5%0*0"}) {
            due("e {" + one + "}", "1:E6/1");
        }
        of("(quotient rounded towards 0, and its rest)");
        String[][] ones = {{"7/2", "3"}, {"-7/2", "-3"}, {"7/-2", "-3"}, {"-7/-2", "3"}, {"7%2", "1"}, {"-7%2", "-1"},
            {"7%-2", "1"}, {"-7%-2", "-1"}, {"1/2", "0"}, {"-1/2", "0"}, {"0/5", "0"}, {"0%5", "0"}, {"-2147483648/-1",
            "-2147483648"}, {"-2147483648%-1", "0"}, {"-2147483648/1", "-2147483648"}, {"2147483647/-2147483648", "0"}};
        for (String[] one : ones) {
            due("e {" + one[0] + "}", "0:" + one[1] + "/1");
        }
    }

    private static void expressionWraps() {
        of("all wrap");
        String[][] ones = {{"2147483647+1", "-2147483648"}, {"-2147483648-1", "2147483647"}, {"65536*65536", "0"},
            {"65536*32768", "-2147483648"}, {"2147483647*2147483647", "1"}, {"--2147483648", "-2147483648"},
            {"-(-2147483648)", "-2147483648"}, {"2147483648", "-2147483648"}, {"4294967296", "0"}, {"9999999999",
            "1410065407"}, {"-9999999999", "-1410065407"}, {"2147483648<0", "1"}, {"2147483647+1<0", "1"},
            {"-2147483648-1>0", "1"}, {"4294967297=1", "1"}, {"-2147483648<2147483647", "1"}};
        for (String[] one : ones) {
            due("e {" + one[0] + "}", "0:" + one[1] + "/1");
        }
        of("< > = (1 or 0), then & (1 if both are not 0, else 0), then | (1 if one is not 0, else 0)");
        String[][] truths = {{"1<2", "1"}, {"2<2", "0"}, {"3<2", "0"}, {"1>2", "0"}, {"2>2", "0"}, {"3>2", "1"}, {"2=2", "1"},
            {"2=3", "0"}, {"0&0", "0"}, {"0&2", "0"}, {"2&0", "0"}, {"2&4", "1"}, {"0|0", "0"}, {"0|2", "1"}, {"2|0", "1"},
            {"2|4", "1"}, {"-1&-1", "1"}, {"-1|0", "1"}};
        for (String[] one : truths) {
            due("e {" + one[0] + "}", "0:" + one[1] + "/1");
        }
        of("which bind most, then + -, then < > =, then &, then |, each from left to right");
        String[][] ranks = {{"2+3*4", "14"}, {"2*3+4", "10"}, {"10-2-3", "5"}, {"10-2+3", "11"}, {"100/5/2", "10"},
            {"100/5*2", "40"}, {"7%4*2", "6"}, {"2*7%4", "2"}, {"1+1<1+2", "1"}, {"3<2<1", "1"}, {"1<2=1", "1"}, {"5>3>1", "0"},
            {"2=1+1", "1"}, {"0<0&0", "0"}, {"1&2=2", "1"}, {"0&0|1", "1"}, {"1|1&0", "1"}, {"1|0&0|0", "1"}, {"-2+5", "3"},
            {"!0+1", "2"}, {"!1=0", "1"}, {"-2*-3", "6"}, {"5--3", "8"}, {"5-!0", "4"}};
        for (String[] one : ranks) {
            due("e {" + one[0] + "}", "0:" + one[1] + "/1");
        }
    }

    private static void emptyPatterns() {
        of("A value FITS a pattern if it is made from it by putting any characters (or none) for each *");
        String[][] ones = {{"{}", "{}", "1"}, {"{}", "a", "0"}, {"*", "{}", "1"}, {"**", "{}", "1"}, {"*", "a", "1"},
            {"*", A20, "1"}, {"?", "{}", "0"}, {"*?", "{}", "0"}, {"?*", "a", "1"}, {"??", "a", "0"}, {"?", "aa", "0"},
            {"a", "{}", "0"}, {"a*", "a", "1"}, {"*a", "a", "1"}, {"a*a", "a", "0"}, {"a*a", "aa", "1"}, {A20, A20, "1"},
            {A20, A19, "0"}, {A19, A20, "0"}, {"*" + A19, A20, "1"}, {"?".repeat(20), A20, "1"}, {"?".repeat(19), A20, "0"},
            {"?".repeat(20), A19, "0"}, {"*".repeat(20), "{}", "1"}, {"*".repeat(20), A20, "1"}, {"*a".repeat(10), A20, "1"},
            {"*a*b" + "*a".repeat(8), A20, "0"}, {"*b", A20, "0"}, {"b*", A20, "0"}, {A19 + "?", A20, "1"}, {"?", "*", "1"},
            {"*", "*", "1"}, {"a", "A", "0"}, {"{?\n*}", "{ \n }", "1"}, {"\\*", "ab", "1"}};
        for (String[] one : ones) {
            due("m " + one[0] + " " + one[1], "0:" + one[2] + "/1");
        }
        due("m {[} {[}", "0:1/1");
        due("m {[a]} a", "0:0/1");
    }

    private static void fullInput() {
        of("To send: E7, changing nothing, if the input would have more than 40; else the characters go to its end");
        Lab lab = Lab.with("> {" + A20 + "};> {" + A19 + "};> b");
        same("40", lab.run(9) + lab.x.pending() + lab.latest(2), "0:/340ba");
        lab.say("> c");
        same("41", lab.run(9) + lab.x.pending() + lab.x.talk() + lab.latest(1), "1:E7/14040b");
        lab.say("> {}");
        same("none more", lab.run(9) + lab.x.pending(), "0:/140");
        Lab most = Lab.with("> {" + A20 + "};> {" + A19 + "};k {> bc} e;> d");
        same("not even its first character", most.run(9) + most.variable('e') + most.x.pending() + most.latest(2),
            "0:/5E740da");
        Lab again = Lab.with("> {" + A20 + "};> {" + A20 + "};< 1 x {};> b;> c");
        same("a tick makes room for one", again.run(9) + again.x.pending() + again.latest(1), "1:E7/640b");
        Lab order = Lab.with("> abc;> {};> d;< 4 *d {l 333}");
        for (char c = 'a'; c <= 'd'; c++) {
            order.x.rule(0, c, c, 0);
        }
        same("in order", order.run(20) + order.latest(8), "0:3/9'd'c'b'adcba");
    }

    private static void fullBuffer() {
        of("its character (if not 0) goes to the end of the buffer (it is lost if 20 are there)");
        Lab lab = Lab.with("< 20 x {}");
        lab.x.rule(0, 0, 'a', 0);
        lab.x.rule(0, 'b', 'b', 0);
        same("20 are there", lab.run(99) + lab.x.buffered() + " " + lab.x.talk(), "0:T/2120 20");
        lab.say("> b;< 1 x {};< 0 *b {}");
        same("b is lost", lab.run(99) + lab.x.buffered() + lab.latest(3), "0:T/420'bb'a");
        lab.say("< 0 ? {};> b;< 1 x {};< 0 *b {l ok}");
        same("where there is room again, it is the last", lab.run(99) + lab.x.buffered(), "0:2/60");
        Lab state = Lab.with("< 21 x {}");
        state.x.rule(0, 0, 'a', 1);
        state.x.rule(1, 0, 'a', 0);
        same("the state changes though it is lost", state.run(99) + state.x.peer() + state.x.buffered(), "0:T/22120");
    }

    private static void ticks() {
        of("if the input is not empty, its first character is taken out");
        Lab none = Lab.with("> a;< 1 ? {}");
        none.x.rule(0, 0, 'x', 3);
        none.x.rule(1, 'a', 'y', 4);
        none.x.rule(0, 'b', 'z', 5);
        same("no rule counts: it is taken out all the same", none.run(9) + none.x.pending() + none.x.peer(), "0:T/300");
        same("nothing is said", none.x.talk() + " " + none.x.buffered(), "1 0");
        of("if it is empty, the first rule for the state and 0");
        Lab empty = Lab.with("< 1 ? {l ab}");
        empty.x.rule(1, 0, 'x', 2);
        empty.x.rule(0, 'a', 'y', 3);
        same("there is none: nothing happens", empty.run(9) + empty.x.peer() + empty.x.talk(), "0:T/200");
        empty.x.rule(0, 0, 'z', 4);
        empty.x.rule(0, 0, 'w', 5);
        same("the first of two", empty.run(9) + empty.x.peer() + empty.latest(1), "0:2/34'z");
        same("there is none for state 4", empty.run(9) + empty.x.peer(), "0:T/24");
        of("the first rule counts that is for the peer's state and this character");
        Lab first = Lab.with("> ab;< 2 ?? {l ab}");
        first.x.rule(0, 'b', '1', 0);
        first.x.rule(0, 'a', '2', 6);
        first.x.rule(0, 'a', '3', 0);
        first.x.rule(6, 'b', '4', 6);
        same("in order", first.run(9) + first.latest(2) + first.x.peer(), "0:2/5'4'26");
        Lab line = Lab.with("> \"\n\";< 1 ? {}");
        line.x.rule(0, 0, 'x', 3);
        same("a newline has no rule", line.run(9) + line.x.pending() + line.x.peer(), "0:T/300");
    }

    /** A peer that says a, b and c, and then no more. */
    private static Lab counting(String text) {
        Lab lab = Lab.with(text);
        lab.x.rule(0, 0, 'a', 1);
        lab.x.rule(1, 0, 'b', 2);
        lab.x.rule(2, 0, 'c', 3);
        return lab;
    }

    private static void counted(String text, String want) {
        Lab lab = counting(text);
        same(text, lab.run(50) + " " + lab.x.buffered(), want);
    }

    private static void waits() {
        of("the buffer's beginnings are looked at, from the empty one to the whole");
        counted("< 0 {} {l ab}", "0:2/2 0");
        counted("< 0 * {l ab}", "0:2/2 0");
        counted("< 9 {} {l ab}", "0:2/2 0");
        counted("< 3 x {};< 0 * {l ab}", "0:2/6 3");
        counted("< 3 x {};< 0 ? {l ab}", "0:2/6 2");
        counted("< 3 x {};< 0 *? {l ab}", "0:2/6 2");
        counted("< 3 x {};< 0 abc {l ab}", "0:2/6 0");
        counted("< 3 x {};< 0 b {l ab}", "0:T/5 3");
        counted("< 3 x {};< 0 abcd {l ab}", "0:T/5 3");
        counted("< 3 x {};< 0 ???? {l ab}", "0:T/5 3");
        of("for each the patterns in their order: the first that it fits FIRES");
        counted("< 3 x {};< 0 abc {l 1} a {l 22}", "0:2/6 2");
        counted("< 3 x {};< 0 a {l 1} ? {l 22}", "0:1/6 2");
        counted("< 3 x {};< 0 ab {l 1} *b {l 22} a? {l 333}", "0:1/6 1");
        counted("< 3 x {};< 0 x {l 1} *b {l 22} a? {l 333}", "0:2/6 1");
        counted("< 3 x {};< 0 abc {l 1} ab {l 22} {} {l 333}", "0:3/6 3");
        counted("< 3 x {};< 0 ab* {l 1} a {l 22} a* {l 333}", "0:2/6 2");
        of("this beginning is taken from the buffer, and its w is run: its code and result");
        counted("< 3 x {};< 0 ab {};< 0 c {l ab}", "0:2/7 0");
        counted("< 9 a {x no}", "1:no/3 0");
        counted("< 9 a {r no};l a", "0:no/3 0");
        counted("< 9 a {b}", "1:E9/3 0");
        counted("* {1} {< 9 a {b}}", "0:/5 0");
        counted("< 9 a {< 9 b {< 9 c {< 9 d {} {} {l ab}}}}", "0:2/8 0");
    }

    private static void waitsAtTheirEnd() {
        of("after n ticks (none if n is below 1) the command ends with OK, and the result T");
        counted("< 0 a {}", "0:T/1 0");
        counted("< -1 a {}", "0:T/1 0");
        counted("< -2147483648 a {}", "0:T/1 0");
        counted("< 2147483648 a {}", "0:T/1 0");
        counted("< 1 a {l ab}", "0:2/3 0");
        counted("< 1 ab {l ab}", "0:T/2 1");
        counted("< 2 ab {l ab}", "0:2/4 0");
        counted("< 3 ab {l ab}", "0:2/4 0");
        counted("< 4 abcd {l ab}", "0:T/5 3");
        counted("< -0 * {l ab}", "0:2/2 0");
        counted("l [< 0 a {}]", "0:1/2 0");
        Lab silent = Lab.with("< 5 ? {l ab}");
        same("without rules", silent.run(9), "0:T/6");
        silent.x.rule(0, 0, 0, 0);
        same("with one that says nothing", silent.run(9), "0:T/6");
        of("If none fires");
        Lab later = counting("< 1 x {};< 1 x {};< 9 ab {l ab}");
        same("what was said before counts", later.run(50), "0:2/6");
    }
}
