/** What promise 6 rests on: words, commands, errors, expressions, patterns and waiting. */
public final class TermsTest {
    private static final String A20 = "aaaaaaaaaaaaaaaaaaaa";
    private static final String A21 = A20 + "a";

    public static void main(String[] args) {
        words();
        wordErrors();
        brackets();
        orderOfErrors();
        variables();
        numbers();
        control();
        procedures();
        depth();
        expressions();
        expressionErrors();
        patterns();
        peer();
        waiting();
        oneAfterAnother();
        textsThatFillTheRoom();
        Check.end();
    }

    /** A text run with all fuel: its code and result, and the fuel it used. */
    private static void due(String text, String want) {
        Check.same(text, Lab.with(text).run(100), want);
    }

    private static void words() {
        due("  s   a   5  ", "0:5/1");
        due("s a 5\ns b 6", "0:6/2");
        due("s a {b c;\n[$x] \"\\}", "0:b c;\n[$x] \"\\/1");
        due("s a {a{b}{}c}", "0:a{b}{}c/1");
        due("s a {}", "0:/1");
        due("s a \"\"", "0:/1");
        due("s a \"b c;\nd\"", "0:b c;\nd/1");
        due("s a \"b\\\"c\"", "0:b\"c/1");
        due("s a b\"c{d}", "0:b\"c{d}/1");
        due("s a }", "0:}/1");
        due("s a ]", "0:]/1");
        due("s a \\ \\;\\\n\\$\\[\\\\", "0: ;\n$[\\/1");
        due("s a \\{b", "0:{b/1");
        due("s a \\n", "0:n/1");
        due("s a 1;s b $a$a", "0:11/2");
        due("s a 1;s b x$ab", "0:x1b/2");
        due("s a $", "0:$/1");
        due("s a $A$$1", "0:$A$$1/1");
        due("s a \"$\"", "0:$/1");
        due("s a s;$a b 7", "0:7/2");
        due("{s} \"a\" {7}", "0:7/1");
        due("s a \"\"\"\"", "1:E1/0");
        due("\"\"", "1:E2/1");
        due("{}", "1:E2/1");
        due("l a;", "0:1/1");
        due("l abc;;\n; ;", "0:3/1");
        due("s a " + A20, "0:" + A20 + "/1");
        due("s a \"" + A20 + "\"", "0:" + A20 + "/1");
        due("s a {" + A20 + "}", "0:" + A20 + "/1");
    }

    private static void wordErrors() {
        due("s a {b", "1:E1/0");
        due("s a {b{c}", "1:E1/0");
        due("s a \"b", "1:E1/0");
        due("s a \"b\\\"", "1:E1/0");
        due("s a b\\", "1:E1/0");
        due("s a {b}c", "1:E1/0");
        due("s a {b}]", "1:E1/0");
        due("s a {b}{c}", "1:E1/0");
        due("s a \"b\"c", "1:E1/0");
        due("s a {b};l c", "0:1/2");
        due("s a {b}\nl c", "0:1/2");
        due("l 1 2 3 4 5 6 7", "1:E3/1");
        due("l 1 2 3 4 5 6 7 8", "1:E1/0");
        due("l 1 2 3 4 5 6 7 [x no]", "1:E1/0");
        due("l 1 2 3 4 5 6 7 ;l ab", "1:E3/1");
        due("k {s b 1 2 3 4 5 6 $z};l 5", "0:1/2");
        due("s a $b", "1:E4/0");
        due("s a " + A21, "1:E7/0");
        due("s a \"" + A21, "1:E7/0");
        due("s a \"" + A20, "1:E1/0");
        due("s a " + A20 + "$b", "1:E4/0");
        due("s a " + A20 + "\\", "1:E1/0");
        due("s a " + A20 + "\\b", "1:E7/0");
        due("s a " + A20 + "[s b 1]", "1:E7/1");
        due("s a " + A20 + "[s b \"\"]", "0:" + A20 + "/2");
        due("s b {" + A20 + "};s a $b$b[x no]", "1:E7/1");
        due("s b {" + A20 + "};s a $b\"", "1:E7/1");
        Lab lab = Lab.with("s a 1;s a 2 \"");
        Check.same("what was read is done at once", lab.run(9) + lab.variable('a'), "1:E1/11");
    }

    private static void brackets() {
        due("s a [l abc]", "0:3/2");
        due("s a x[l abc]y[l b]", "0:x3y1/3");
        due("s a []", "0:/1");
        due("s a [ ; ]", "0:/1");
        due("s a [s b 1 ]", "0:1/2");
        due("s a [s b {1}]", "0:1/2");
        due("s a [s b \"1\"]", "0:1/2");
        due("s a [s b {]}]", "0:]/2");
        due("s a [s b \"]\"]", "0:]/2");
        due("s a [s b \\]]", "0:]/2");
        due("s a [s b 1]]", "0:1]/2");
        due("s a [s b $]", "0:$/2");
        due("s a [l b;l bcd]", "0:3/3");
        due("s a [l b\nl bcd;]", "0:3/3");
        due("s a [l [l [l b]]]", "0:1/4");
        due("s a \"[l \"b c\"] d\"", "0:3 d/2");
        due("s a [? {1} {s b ]}]", "0:]/3");
        due("[s a s] b 7", "0:7/2");
        due("s a [s b {c}d]", "1:E1/0");
        due("s a [l b", "1:E1/0");
        due("s a [l b;l c", "1:E1/1");
        due("s a [l b;", "1:E1/1");
        due("s a [zz", "1:E1/0");
        due("s a [", "1:E1/0");
        due("s a \"[l b\"]", "1:E1/1");
        due("? {1} {s a [l b} ]", "1:E3/1");
        due("? {1} {s a [l b}", "1:E1/1");
        due("s a [r 5]", "0:5/1");
        due("l abc;s a [b]", "1:E9/2");
        due("s a [x 5];l 1", "1:5/1");
        due("k {s a [c]} b;s b [k {s a [c]}]", "0:4/5");
        Lab lab = Lab.with("l [s a 1;s b 2;s c 3");
        Check.same("the command at the end isn't done", lab.run(9) + lab.variable('b') + lab.variable('c'), "1:E1/22null");
        Check.same("not even if there is no fuel", Lab.with("s a 1;l [s b 2").run(1), "1:E1/1");
    }

    private static void orderOfErrors() {
        due("zz", "1:E2/1");
        due("q 1 2 3", "1:E2/1");
        due("A", "1:E2/1");
        due("A {" + A21 + "}", "1:E2/1");
        due("{" + A21 + "}", "1:E2/1");
        due("1", "1:E2/1");
        due("p A b {};A", "1:E3/2");
        due("p A b {};A 1 2", "1:E3/2");
        due("p A b {};A {" + A21 + "}", "1:E7/2");
        due("s", "1:E3/1");
        due("s ab 1 2", "1:E3/1");
        due("s ab", "1:E4/1");
        due("s A 1", "1:E4/1");
        due("s \"\" 1", "1:E4/1");
        due("s {" + A21 + "} 1", "1:E4/1");
        due("s 1 {" + A21 + "}", "1:E4/1");
        due("s a {" + A21 + "}", "1:E7/1");
        due("i", "1:E3/1");
        due("i a 1 2", "1:E3/1");
        due("i ab x", "1:E4/1");
        due("i a x", "1:E5/1");
        due("i a {" + A21 + "}", "1:E5/1");
        due("i a 1", "1:E4/1");
        due("e", "1:E3/1");
        due("e 1", "1:E3/1");
        due("e {1} {1}", "1:E3/1");
        due("l", "1:E3/1");
        due("l a b", "1:E3/1");
        due("l {" + A21 + "}", "1:E7/1");
        due("m a", "1:E3/1");
        due("m a b c", "1:E3/1");
        due("m a {" + A21 + "}", "1:E7/1");
        due("m {" + A21 + "} a", "1:E7/1");
        due("? {1}", "1:E3/1");
        due("? {1} {} {} {}", "1:E3/1");
        due("? {1+} x", "1:E3/1");
        due("? 1 {}", "1:E3/1");
        due("? {1} {} x", "1:E3/1");
        due("* {1}", "1:E3/1");
        due("* 1 {}", "1:E3/1");
        due("* {1} b", "1:E3/1");
        due("p A b", "1:E3/1");
        due("p a b c", "1:E3/1");
        due("p a b {}", "1:E4/1");
        due("p AB b {}", "1:E4/1");
        due("p A B {}", "1:E4/1");
        due("p {" + A21 + "} B {}", "1:E7/1");
        due("g", "1:E3/1");
        due("g 1", "1:E4/1");
        due("r", "1:E3/1");
        due("r a b", "1:E3/1");
        due("r {" + A21 + "}", "1:E7/1");
        due("b 1", "1:E3/1");
        due("c 1", "1:E3/1");
        due("x", "1:E3/1");
        due("x {" + A21 + "}", "1:E7/1");
        due("k", "1:E3/1");
        due("k x", "1:E3/1");
        due("k {x a} b c", "1:E3/1");
        due("k {x a} 1", "1:E4/1");
        due("> ", "1:E3/1");
        due("> {" + A21 + "}", "1:E7/1");
        due("< 1 a", "1:E3/1");
        due("< 1 a {} b", "1:E3/1");
        due("< 1 a {} b {} c", "1:E3/1");
        due("< x a b", "1:E3/1");
        due("< x a {} b c", "1:E3/1");
        due("< x {" + A21 + "} {}", "1:E5/1");
        due("< 1 {" + A21 + "} {}", "1:E7/1");
        due("< 1 \"\" {} b {} {" + A21 + "} {}", "1:E7/1");
    }

    private static void variables() {
        due("s a", "1:E4/1");
        due("s a 5;s a", "0:5/2");
        due("s a 5;s a 6;s a", "0:6/3");
        due("s a 5;i a", "0:6/2");
        due("s a 5;i a 10;s a", "0:15/3");
        due("s a 5;i a -10", "0:-5/2");
        due("s a 5;i a {3}", "0:8/2");
        due("s a x;i a", "1:E5/2");
        due("s a \"\";i a", "1:E5/2");
        due("s a 1;g a;s a", "0:1/3");
        due("g a", "0:/1");
        due("p F a {i a;s b $a};F 5", "0:6/4");
        due("s b 1;p F a {s b};F 5", "1:E4/4");
        due("s b 1;p F a {g b;i b $a};F 5;s b", "0:6/6");
        due("p F a {g b;s b};F 5", "1:E4/4");
        due("p F a {g b;s b 2};F 5;s b", "0:2/5");
        due("p F a {s b 1;g b;s b};F 5", "1:E4/5");
        due("s a 9;p F a {g a;s a};F 5", "0:9/5");
        due("p F a {g a;s a};F 5", "1:E4/4");
        due("p F a {? {$a} {g b;s b 1} {s b 2};r $b};F 1;F 0;s b", "0:1/11");
        due("p F a {s c $a};p G a {k {F 1$a} q;r $a$q};G 5", "0:515/7");
        due("p F a {s b [s a]};F 5;k {s b} e;s e", "0:E4/7");
        due("p F a {k {x no} z;r $z};F 5", "0:no/5");
        due("p F a {g z;k {x no} z};F 5;s z", "0:no/6");
        due("p F a {k {g z;s z 1} z};F 5;s z", "0:1/6");
    }

    private static void numbers() {
        due("s a 2147483647;i a", "0:-2147483648/2");
        due("s a -2147483648;i a -1", "0:2147483647/2");
        due("s a 4294967297;i a 0", "0:1/2");
        due("s a 9999999999;i a 0", "0:1410065407/2");
        due("s a -9999999999;i a 0", "0:-1410065407/2");
        due("s a 12345678901;i a 0", "1:E5/2");
        due("s a -1234567890;i a 0", "0:-1234567890/2");
        due("s a -12345678901;i a 0", "1:E5/2");
        due("s a 007;i a 0", "0:7/2");
        due("s a -0;i a 0", "0:0/2");
        due("s a -;i a 0", "1:E5/2");
        due("s a --1;i a 0", "1:E5/2");
        due("s a +1;i a 0", "1:E5/2");
        due("s a \" 1\";i a 0", "1:E5/2");
        due("s a 1x;i a 0", "1:E5/2");
        due("s a 99;i a", "0:100/2");
        due("s a 1;i a -11", "0:-10/2");
    }

    private static void control() {
        due("? {1} {l ab}", "0:2/2");
        due("? {0} {l ab}", "0:/1");
        due("l a;? {0} {l ab}", "0:/2");
        due("? {0} {l ab} {l c}", "0:1/2");
        due("? {-1} {l ab} {l c}", "0:2/2");
        due("? {1} {}", "0:/1");
        due("? {1} {r 5};l a", "0:5/2");
        due("? {1/0} {l a}", "1:E6/1");
        due("s a 3;* {$a} {i a -1;l abc};s a", "0:0/12");
        due("* {0} {l a}", "0:/1");
        due("* {1} {l a;b;l c}", "0:/4");
        due("s a 3;* {$a} {i a -1;c;x no};s a", "0:0/12");
        due("* {1} {r 5}", "0:5/3");
        due("* {1} {x no}", "1:no/3");
        due("* {$a} {}", "1:E4/1");
        due("s a 1;* {1/$a} {s a 0}", "1:E6/4");
        due("* {1} {* {1} {b};b};l abc", "0:3/7");
        due("r {a b}", "0:a b/1");
        due("x \"\"", "1:/1");
        due("k {l abc} a;s b $a[k {l abc}]", "0:30/5");
        due("s b [k {x boom} a]$a", "0:1boom/3");
        due("s b [k {r boom} a]$a", "0:2boom/3");
        due("s b [k {l a;b} a]<$a>", "0:3<>/4");
        due("s b [k {l a;c} a]<$a>", "0:4<>/4");
        due("s b [k {} a]<$a>", "0:0<>/2");
        due("k {zz}", "0:1/2");
        due("k {* {1} {}} a", "5:/100");
        due("k {k {x 1} a;x $a$a} b;s b", "0:11/5");
        Lab lab = Lab.with("s a 7;k {l a;l a} a");
        Check.same("OUT is not caught", lab.run(3) + lab.variable('a'), "5:/37");
        due("l a;p F n {b}", "0:/2");
        due("l a;> b", "0:/2");
    }

    private static void procedures() {
        due("p F n {r $n$n};F ab", "0:abab/3");
        due("p F n {l $n};F abc", "0:3/3");
        due("p F n {};F abc", "0:/2");
        due("p F n {r 1;x no};F abc;l ab", "0:2/4");
        due("p F n {b};F 1", "1:E9/3");
        due("p F n {c};F 1", "1:E9/3");
        due("p F n {b};* {1} {F 1}", "1:E9/5");
        due("p F n {x $n};F 7", "1:7/3");
        due("p F n {l 1};p F m {r $m};F 7", "0:7/4");
        due("p F n {p F n {l abc};r $n};s a [F 7][F 7]", "0:73/7");
        due("p F n {p G n {r 5}};k {G 1} a;F 1;s b $a[G 1]", "0:E25/8");
        due("p F n {? {$n} {r [F [e {$n-1}]]$n};r \"\"};F 2", "0:12/12");
        due("p F n {* {1} {}};F 1", "5:/100");
        due("F 1;p F n {}", "1:E2/1");
        due("p F n {k {r 5} a;s b [k {r 6}]$a};F 1", "0:25/7");
    }

    private static void depth() {
        due("l [l [l [l [l [l [l a]]]]]]", "0:1/7");
        due("l [l [l [l [l [l [l []]]]]]]", "0:1/7");
        due("l [l [l [l [l [l [l [l a]]]]]]]", "0:1/8");
        due("l [l [l [l [l [l [l [l []]]]]]]]", "1:E8/0");
        due("l [l [l [l [l [l [l [l [", "1:E8/0");
        due("k {k {k {k {k {k {k {k {}}}}}}}}", "0:0/8");
        due("k {k {k {k {k {k {k {k {} a}}}}}}};s a", "0:E8/9");
        due("k {k {k {k {k {k {k {r [k {}]} a}}}}}};s a", "0:E8/8");
        due("k {k {k {k {k {k {k {? {1} {}} a}}}}}};s a", "0:E8/9");
        due("k {k {k {k {k {k {k {? {0} {}} a}}}}}};s a", "0:/9");
        due("k {k {k {k {k {k {k {* {1} {}} a}}}}}};s a", "0:E8/10");
        due("k {k {k {k {k {k {k {< 1 * {}} a}}}}}};s a", "0:E8/9");
        due("p F n {};k {k {k {k {k {k {k {F 1} a}}}}}};s a", "0:E8/10");
        due("p F n {};k {k {k {k {k {k {F 1} a}}}}};s a", "0:/9");
        due("p F n {F $n};F 1", "1:E8/9");
        due("p F n {g a;s a $n;F 1$n};k {F 1};s a", "0:111111/22");
    }

    private static void expressions() {
        String[][] sums = {{"1", "1"}, {" 1 ", "1"}, {"1+2*3", "7"}, {"(1+2)*3", "9"}, {"10-3-2", "5"}, {"7/2", "3"},
            {"-7/2", "-3"}, {"7/-2", "-3"}, {"-7%3", "-1"}, {"7%-3", "1"}, {"100/10/5", "2"}, {"2*3%4", "2"},
            {"-2*-3", "6"}, {"--5", "5"}, {"- - 5", "5"}, {"!5", "0"}, {"!0", "1"}, {"!!7", "1"}, {"-!0", "-1"},
            {"!-0", "1"}, {"2--3", "5"}, {"2- -3", "5"}, {"-(1+2)", "-3"}, {"!(1+2)*5", "0"}, {"1<2", "1"},
            {"2<1", "0"}, {"1<1", "0"}, {"2>1", "1"}, {"1>1", "0"}, {"1=1", "1"}, {"1=2", "0"}, {"3>2>1", "0"},
            {"1<2<3", "1"}, {"2=2=1", "1"}, {"1+1<3", "1"}, {"1<2&2<3", "1"}, {"2&4", "1"}, {"2&0", "0"},
            {"0&0", "0"}, {"0|0", "0"}, {"0|5", "1"}, {"5|0", "1"}, {"1|1&0", "1"}, {"0&1|1", "1"}, {"1|0=1", "1"},
            {"5&1=1", "1"}, {"2+3=5", "1"}, {"2*3<7", "1"}, {"0&(1|1)", "0"}, {"2147483647+1", "-2147483648"},
            {"-2147483648-1", "2147483647"}, {"65536*65536", "0"}, {"4294967297", "1"}, {"9999999999", "1410065407"},
            {"-2147483648/-1", "-2147483648"}, {"-2147483648%-1", "0"}, {"-2147483648", "-2147483648"},
            {"((((((((7))))))))", "7"}, {"((((((((1))))))))+((((((((2))))))))", "3"}, {"0000000012", "12"},
            {"1 +2 * ( 3 - 1 )", "5"}, {"- ( - 3 )", "3"}, {"1-!1", "1"}, {"2*-3+1", "-5"}, {"2147483648<0", "1"},
            {"-------------------------------------------------------------------5", "-5"}, {"1=1&1=2|3", "1"}, {"2*(0|5)", "2"}, {"3*(2|0)+1", "4"},
            {"(0|1)&(1|0)", "1"}};
        for (String[] sum : sums) {
            due("e {" + sum[0] + "}", "0:" + sum[1] + "/1");
        }
        due("s a 5;e {$a*$a}", "0:25/2");
        due("s a -5;e {$a-$a*2}", "0:5/2");
        due("s a -5;e { - $a }", "0:5/2");
        due("s a 4294967298;e {$a}", "0:2/2");
        due("p F n {e {$n+1}};F 4", "0:5/3");
        due("s n 7;p F a {g n;r [e {$n+$a}]};F 4", "0:11/6");
    }

    private static void expressionErrors() {
        String[] bad = {"", " ", "1+", "+1", "*", "1 2", "1$a", "$", "$ a", "$A", "$1", "a", "(", ")", "()", "(1", "1)", "1!",
            "1!2", "1(2)", "(1)(2)", "(1)2", "12345678901", "(((((((((1)))))))))", "1+*2", "1<=2", "1==2", "1&&2", "1\n",
            "\n1", "1;2", "~1", "1~2", "{1}", "\"1\"", "[l a]", "1/0+", "$a+", "$ab", "1.5", "1 1", "-", "!", "1-", "1,2"};
        for (String sum : bad) {
            due("e {" + sum + "}", "1:E1/1");
        }
        due("e {$a}", "1:E4/1");
        due("s a x;e {$a}", "1:E5/2");
        due("s a x;e {$a+$b}", "1:E5/2");
        due("s a x;e {$b+$a}", "1:E4/2");
        due("s a x;e {1/0+$a}", "1:E5/2");
        due("e {1/0+$b}", "1:E4/1");
        due("s a x;e {$a+$b+}", "1:E1/2");
        due("e {1/0}", "1:E6/1");
        due("e {1%0}", "1:E6/1");
        due("e {0&1/0}", "1:E6/1");
        due("e {1|1%(2-2)}", "1:E6/1");
        due("e {1/(1/2)}", "1:E6/1");
        due("s a \"\";e {$a}", "1:E5/2");
        due("s a 12345678901;e {$a}", "1:E5/2");
    }

    private static void patterns() {
        String[][] ones = {{"a", "a", "1"}, {"a", "b", "0"}, {"a", "ab", "0"}, {"ab", "a", "0"}, {"?", "a", "1"},
            {"?", "{}", "0"}, {"?", "ab", "0"}, {"*", "{}", "1"}, {"*", "abc", "1"}, {"a*", "a", "1"}, {"a*", "abc", "1"},
            {"a*", "ba", "0"}, {"*a", "bca", "1"}, {"*a", "ab", "0"}, {"a*b*c", "axxbyyc", "1"}, {"a*b*c", "axxbyy", "0"},
            {"*ab*", "aab", "1"}, {"*aab", "aaab", "1"}, {"**", "{}", "1"}, {"*?", "{}", "0"}, {"*?", "a", "1"},
            {"?*", "abc", "1"}, {"*?*?*", "a", "0"}, {"*?*?*", "ab", "1"}, {"{}", "{}", "1"}, {"{}", "a", "0"},
            {"?", "*", "1"}, {"a?c", "abc", "1"}, {"a?c", "ac", "0"}, {"\\*", "b", "1"}, {"*", "\"a\n b\"", "1"},
            {"?", "\"\n\"", "1"}, {"A", "a", "0"}, {".", "a", "0"}, {"*" + A20.substring(1), A20, "1"}, {A20, A20, "1"},
            {"*a*a*a*a*a*a*a*a*a*b", A20, "0"}, {"????????????????????", A20, "1"}};
        for (String[] one : ones) {
            due("m " + one[0] + " " + one[1], "0:" + one[2] + "/1");
        }
    }

    private static void peer() {
        Lab lab = Lab.with("> \"h\ni\";< 3 x {b}");
        lab.x.rule(0, 'h', 'H', 1);
        lab.x.rule(1, 0, 'n', 3);
        lab.x.rule(1, 'i', 'I', 2);
        Check.same("no rule is for a newline", lab.run(20) + lab.x.peer() + lab.latest(5), "0:T/52'I'Hi\nh");
        Lab silent = Lab.with("< 3 x {b}");
        silent.x.rule(0, 0, 0, 1);
        silent.x.rule(1, 0, 'a', 2);
        silent.x.rule(2, 'a', 'b', 3);
        Check.same("0 is for an empty input", silent.run(20) + silent.x.peer() + silent.latest(2), "0:T/42'a#");
        Lab kept = Lab.with("> {" + A20 + "};> {" + A20 + "};> b");
        Check.same("no room for what is sent", kept.run(20) + kept.x.pending() + kept.x.talk(), "1:E7/34040");
        Lab most = Lab.with("> {" + A20 + "};> {" + A20.substring(1) + "};k {> ab};> c");
        Check.same("all or nothing", most.run(20) + most.x.pending() + most.latest(2), "0:/540ca");
        Lab lost = Lab.with("< 25 b {l a};< 0 ???????????????????? {s a x}");
        lost.x.rule(0, 0, 'a', 0);
        Check.same("what finds no room is lost", lost.run(40) + lost.x.buffered() + "," + lost.x.talk(), "0:x/280,25");
    }

    private static Lab counting(String text) {
        Lab lab = Lab.with(text);
        lab.x.rule(0, 0, 'a', 1);
        lab.x.rule(1, 0, 'b', 2);
        lab.x.rule(2, 0, 'c', 3);
        return lab;
    }

    private static void waiting() {
        Check.same("fires", counting("< 5 *b {l abcd}").run(20), "0:4/4");
        Check.same("its code", counting("< 5 a {r 7};l a").run(20), "0:7/3");
        Check.same("its error", counting("< 5 a {x 7}").run(20), "1:7/3");
        Check.same("its break", counting("* {1} {< 5 a {b}};l abc").run(20), "0:3/6");
        Check.same("nothing", counting("< 5 a {}").run(20), "0:/2");
        Check.same("too late", counting("< 1 *b {l abcd}").run(20), "0:T/2");
        Check.same("in time", counting("< 2 *b {l abcd}").run(20), "0:4/4");
        Check.same("no ticks", counting("< 0 a {l abcd}").run(20), "0:T/1");
        Check.same("below 1", counting("< -5 a {l abcd}").run(20), "0:T/1");
        Check.same("the empty beginning", counting("< 5 * {l abcd}").run(20), "0:4/2");
        Check.same("an empty pattern", counting("< 5 {} {l abcd}").run(20), "0:4/2");
        Check.same("out", counting("< 5 z {l abcd}").run(3), "5:/3");
        Check.same("out in the script", counting("< 5 a {l abcd}").run(2), "5:/2");
        Check.same("a number that wraps", counting("< 4294967297 z {b}").run(20), "0:T/2");
        Lab rest = counting("< 3 z {b};< 0 *b {s r 1};< 0 * {s s 1};< 0 c {s t 1};s u $r$s$t");
        Check.same("the shortest beginning is taken", rest.run(30) + rest.x.buffered(), "0:111/110");
        Lab first = counting("< 3 z {b};< 0 abc {s r 1} a? {s r 2} ?b {s r 3}");
        Check.same("the shortest before the first pattern", first.run(30), "0:2/6");
        Lab order = counting("< 3 z {b};< 0 abc {s r 1} ab? {s r 2}");
        Check.same("the first pattern of those", order.run(30), "0:1/6");
        Lab third = counting("< 9 x {s r 1} y {s r 2} *c {s r 3}");
        Check.same("the third", third.run(30) + third.x.buffered(), "0:3/50");
        Lab inner = counting("< 9 a {< 9 b {< 9 c {l abc}}}");
        Check.same("waits in waits", inner.run(30), "0:3/7");
        Lab middle = counting("< 3 z {b};< 0 b {l a}");
        Check.same("only beginnings fit", middle.run(30) + middle.x.buffered(), "0:T/53");
        Lab taken = counting("k {k {k {k {k {k {k {< 1 a {}} q}}}}}};s q");
        Check.same("taken before its script fails", taken.run(30) + taken.x.buffered(), "0:E8/100");
    }

    /** Nothing of a command, an expression or a text may be left for the next. */
    private static void oneAfterAnother() {
        due("k {e {1/0}};e {1}", "0:1/3");
        due("k {e {$z}};e {2}", "0:2/3");
        due("k {e {((1}};e {3}", "0:3/3");
        due("k {e {1+-}};e {4}", "0:4/3");
        due("k {e {(}};k {e {1)}} b;s b", "0:E1/5");
        due("k {l a} b;k x", "1:E3/3");
        due("? {1} {l a};? 1 b", "1:E3/3");
        due("s a {" + A20 + "};s b c;s b", "0:c/3");
        due("k {l abc} a;k {l ab};s a", "0:3/5");
        due("i a 1;s a", "1:E4/1");
        due("s a 1;i a 5;i a;s a", "0:7/4");
        due("? {0} {l a} {l abc};? {0} {l a}", "0:/3");
        Lab deep = Lab.with("p F n {F $n};F 1");
        Check.same("a call that is too deep sets nothing", deep.run(50) + deep.variable('n'), "1:E8/9null");
        Lab lab = new Lab();
        lab.say("l a b");
        lab.say("s a $");
        Check.same("a letter of the old text is no name", lab.run(9), "0:$/1");
        lab.say("s a bc}");
        lab.say("s a {c");
        Check.same("a brace of the old text closes nothing", lab.run(9), "1:E1/0");
        lab.say("s a bc\"");
        lab.say("s a \"c");
        Check.same("nor does a quote", lab.run(9), "1:E1/0");
        lab.say("s a [l b]");
        lab.say("s a [l b");
        Check.same("nor a bracket", lab.run(9), "1:E1/0");
        lab.say("s a bc");
        lab.say("s a b\\");
        Check.same("nor is there a character behind a \\", lab.run(9), "1:E1/0");
    }

    private static String filled(String begin, String end) {
        return begin + " ".repeat(200 - begin.length() - end.length()) + end;
    }

    private static void textsThatFillTheRoom() {
        due(filled("", "l {abc}"), "0:3/1");
        due(filled("", "? {1} {l ab}"), "0:2/2");
        due(filled("", "l \"abc\""), "0:3/1");
        due(filled("", "l abc"), "0:3/1");
        due(filled("l [", "l abc]"), "0:1/2");
        due(filled("l ", "{ab"), "1:E1/0");
        due(filled("l ", "\"ab"), "1:E1/0");
        due(filled("l ", "[l ab"), "1:E1/0");
        due(filled("l ", "ab\\"), "1:E1/0");
        due(filled("l ", "ab$"), "0:3/1");
        due(filled("l ", "{"), "1:E1/0");
        due(filled("l ", "["), "1:E1/0");
        due(filled("e {1", "}"), "0:1/1");
        due(filled("e {", "1}"), "0:1/1");
        due("e {" + "-".repeat(195) + "1}", "0:-1/1");
        due("e {1" + "+1".repeat(97) + "}", "0:98/1");
        due("e {1" + "-1".repeat(97) + "  ", "1:E1/0");
        due("e {" + "!".repeat(196) + "}", "1:E1/1");
        due(";".repeat(200), "0:/0");
        due(" ".repeat(200), "0:/0");
        due("k {" + "{".repeat(98) + "}".repeat(98) + "}", "0:1/2");
        due("[".repeat(200), "1:E8/0");
        due("]".repeat(20), "1:E2/1");
        due("]".repeat(200), "1:E7/0");
        due("b ".repeat(100), "1:E1/0");
        due("b;".repeat(100), "1:E9/1");
        due("l;".repeat(100), "1:E3/1");
    }
}
