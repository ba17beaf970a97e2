import java.util.function.Supplier;

/** Each sentence of Terms 3 and of promises 16 to 21, at its edges. */
public final class EdgesOfTextsTest {
    private static final Due DUE = new Due();
    private static final String THREE = "Terms 3";
    // 2147483647, by numbers of four digits.
    private static final String GREATEST = "9999*9999*21+9999*4790+8416";

    public static void main(String[] args) {
        tape();
        tokens();
        allBytes();
        parts();
        expressions();
        names();
        ints();
        truths();
        faultsOfTokens();
        faultsOfBytes();
        faultsOfWords();
        faultsOfNumbers();
        faultsOfOpenOnes();
        openTillTheyEnd();
        texts();
        firstText();
        namesOfACell();
        partsOfTheHarm();
        partsAsKnown();
        promise16();
        promise17();
        promise18();
        promise19();
        promise20();
        promise21();
        DUE.end("EdgesOfTextsTest");
    }

    /** This text has its fault at this place, or none (-1). */
    private static void fault(String text, int place) {
        DUE.is("text [" + text + "]", Due.text(new HollowShire(), text), place < 0 ? 1 : -100 - place);
    }

    /** This E as the move of a text: its fault at a place behind "build 0;move ", or none. */
    private static void faultOf(String e, int place) {
        fault("build 0;move " + e + ";owe 0;", place < 0 ? -1 : 13 + place);
    }

    /** What this E comes to in month 2 for an empty cell. */
    private static void worth(String e, long want) {
        HollowShire x = new HollowShire();
        x.run(2);
        DUE.is("text with " + e, Due.text(x, "build 0;move " + e + ";owe 0;"), 1);
        x.force(1);
        DUE.is(e, x.law(9, 1, 2), want);
    }

    private static String times(String s, int n) {
        return s.repeat(Math.max(0, n));
    }

    private static void tape() {
        DUE.says(THREE, "A TEXT is read from THE TAPE (160 bytes at most).");
        String text = "build 1;move 2;owe 3;";
        HollowShire x = new HollowShire();
        Due.feed(x, text + times(" ", 160 - text.length()));
        DUE.is("160", x.count(9), 160);
        DUE.is("one more", x.feed(' ', 1), -4);
        DUE.is("a text of 160 bytes", x.text(), 1);
        DUE.is("no bytes are left", x.count(9), 0);
        x.force(1);
        DUE.is("its last part", x.law(0, 2, 0), 3);
        HollowShire last = new HollowShire();
        Due.feed(last, times(" ", 160 - text.length()) + text);
        DUE.is("its last byte is the 160th", last.text(), 1);
        HollowShire many = new HollowShire();
        DUE.is("69 ones", Due.text(many, "build 0" + times("+1", 69) + ";move 0;owe 7;"), 1);
        many.force(1);
        DUE.is("their sum", many.law(0, 0, 0), 69);
        DUE.is("what stands behind it", many.law(0, 2, 0), 7);
        fault("build 1" + times("*1", 69) + ";move 0;owe 7;", -1);
        fault("build 1" + times(" or 1", 27) + ";move 0;owe 7;", -1);
        fault("build 1" + times(" and 1", 22) + ";move 0;owe 7;", -1);
    }

    private static void tokens() {
        DUE.says(THREE, "TOKENS, each as long as can be: WORDS (a .. z), NUMBERS (digits, 4 at most), SIGNS ( ) ; + - * < = ; "
            + "blanks (32, 10) may stand between.");
        fault("build1;move2;owe3;", -1);
        fault("build 1 ;move\n2;\n\nowe  3 ; \n", -1);
        fault("bui ld 1;move 2;owe 3;", 0);
        fault("buildmove 1;", 0);
        fault("build 1;moveowe 1;", 8);
        faultOf("1 2", 2);
        faultOf("12 34", 3);
        faultOf("rockpeople", 0);
        faultOf("rock people", 5);
        faultOf("1or2and3", -1);
        faultOf("not1", -1);
        faultOf("rock+people-pump*fell<month", -1);
        faultOf("rock\n<\n1", -1);
        faultOf("(\n1 )", -1);
        worth("0", 0);
        worth("9", 9);
        worth("9999", 9999);
        worth("0009", 9);
        worth("0000", 0);
        faultOf("10000", 0);
        faultOf("00000", 0);
        // a and z, the first and the last letter; ` and { stand beside them.
        faultOf("and", 0);
        faultOf("rock{", 4);
        faultOf("`rock", 0);
        // 0 and 9 likewise: / and : stand beside them.
        faultOf("1/", 1);
        faultOf("1:", 1);
        faultOf("90", -1);
    }

    private static void allBytes() {
        DUE.says(THREE, "blanks (32, 10) may stand between.");
        for (int b = 0; b < 256; b++) {
            boolean blank = b == 32 || b == 10;
            fault("build 1;move 1;owe 1;" + (char) b, blank ? -1 : 21);
            boolean begins = b == '(' || b == '-';
            boolean digit = b >= '0' && b <= '9';
            fault("build " + (char) b + ";move 1;owe 1;", digit ? -1 : blank || begins ? 7 : 6);
            boolean joins = b == '+' || b == '-' || b == '*' || b == '<' || b == '=';
            fault("build 1" + (char) b + "1;move 1;owe 1;", digit || joins ? -1 : blank || b == ';' ? 8 : 7);
        }
    }

    private static void parts() {
        DUE.says(THREE, "TEXT: build E ; move E ; owe E ;");
        fault("build 1;move 2;owe 3;", -1);
        fault("move 2;build 1;owe 3;", 0);
        fault("build 1;owe 3;move 2;", 8);
        fault("build 1;build 1;move 2;owe 3;", 8);
        fault("build 1;move 2;", 15);
        fault("build 1;move 2;owe 3", 20);
        fault("build 1;move 2;owe 3;;", 21);
        fault("build 1;move 2;owe 3;owe 3;", 21);
        fault("build 1 move 2;owe 3;", 8);
        fault("build ;move 2;owe 3;", 6);
        fault("build 1;move ;owe 3;", 13);
        fault("build 1;move 2;owe ;", 19);
        fault("1;move 2;owe 3;", 0);
    }

    private static void expressions() {
        DUE.says(THREE, "E: AND { or AND }. AND: NOT { and NOT }. NOT: not NOT, or SUM, perhaps < or = and a SUM. "
            + "SUM: TERM { + or - TERM }. TERM: ONE { * ONE }. ONE: a NUMBER, a NAME, - ONE, ( E ).");
        faultOf("1 < 2 < 3", 6);
        faultOf("1 = 2 = 3", 6);
        faultOf("1 < 2 = 3", 6);
        faultOf("(1 < 2) = 3", -1);
        faultOf("1 < not 2", 4);
        faultOf("1 + not 2", 4);
        faultOf("- not 2", 2);
        faultOf("1 * not 2", 4);
        faultOf("(not 2)", -1);
        faultOf("1 or not 2", -1);
        faultOf("1 and not not 2", -1);
        faultOf("1 +", 3);
        faultOf("1 + + 2", 4);
        faultOf("1 - - 2", -1);
        faultOf("1 * - 2", -1);
        faultOf("1 < - 2", -1);
        faultOf("1 * * 2", 4);
        faultOf("* 1", 0);
        faultOf("or 1", 0);
        faultOf("1 or", 4);
        faultOf("1 and or 2", 6);
        faultOf("()", 1);
        faultOf("(1", 2);
        faultOf("1)", 1);
        faultOf("((1)", 4);
        faultOf("(1;)", 2);
        worth("8 - 2 - 1", 5);
        worth("8 - 2 + 1", 7);
        worth("1 + 2 * 3", 7);
        worth("2 * 3 + 1", 7);
        worth("(1 + 2) * 3", 9);
        worth("2 - 3 * - 4", 14);
        worth("1 + 1 < 1 + 2", 1);
        worth("3 < 1 + 1", 0);
        worth("0 and 0 or 1", 1);
        worth("1 or 0 and 0", 1);
        worth("not 0 or 1", 1);
        worth("not (0 or 1)", 0);
        worth("not 1 < 0", 1);
        worth("not 1 = 1 and 0", 0);
        worth("- 2 * 3", -6);
        worth("- 2 + 3", 1);
        worth("- (2 + 3)", -5);
    }

    private static void names() {
        DUE.says(THREE, "NAMES: doubt least most rock people pump fell month.");
        String[] names = {"doubt", "least", "most", "rock", "people", "pump", "fell", "month"};
        long[] worth = {200, 0, 200, 0, 0, 0, 0, 2};
        for (int i = 0; i < names.length; i++) {
            worth(names[i], worth[i]);
            // A letter less or more, another first or last one: no name.
            String n = names[i];
            for (String s : new String[] {n.substring(1), n.substring(0, n.length() - 1), n + "s", n + "a", n + "z", "a" + n, "z" + n, "z" + n.substring(1),
                n.substring(0, n.length() - 1) + "z"}) faultOf(s, 0);
            faultOf(n.toUpperCase(), 0);
        }
    }

    private static void ints() {
        DUE.says(THREE, "An E is an int (32 bits, wrapping):");
        worth(GREATEST, 2147483647L);
        worth(GREATEST + "+1", -2147483648L);
        worth("-(" + GREATEST + ")", -2147483647L);
        worth("-(" + GREATEST + ")-1", -2147483648L);
        worth("-(" + GREATEST + ")-2", 2147483647L);
        worth("-(" + GREATEST + "+1)", -2147483648L);
        worth("(" + GREATEST + ")*2", -2);
        worth("(" + GREATEST + "+1)*2", 0);
        worth("9999*9999*9999", 99980001L * 9999 - (233L << 32));
        worth(GREATEST + "+1<" + "0", 1);
        worth(GREATEST + "<0", 0);
        worth("(" + GREATEST + ")+1=-(" + GREATEST + ")-1", 1);
    }

    private static void truths() {
        DUE.says(THREE, "of or, and, not, <, = 1 or 0 (what is not 0 is true).");
        int[] values = {-7, -1, 0, 1, 2, 9};
        for (int a : values) {
            worth("not " + a, a == 0 ? 1 : 0);
            worth("not not " + a, a == 0 ? 0 : 1);
            worth("" + a, a);
            for (int b : values) {
                worth(a + " or " + b, a != 0 || b != 0 ? 1 : 0);
                worth(a + " and " + b, a != 0 && b != 0 ? 1 : 0);
                worth(a + " < " + b, a < b ? 1 : 0);
                worth(a + " = " + b, a == b ? 1 : 0);
            }
        }
    }

    private static void faultsOfTokens() {
        DUE.says(THREE, "FAULT: the place of the first byte of the first TOKEN that can't stand there (the text's size, if it ends too early),");
        fault("", 0);
        fault(" ", 1);
        fault("build", 5);
        fault("build ", 6);
        fault("build 1", 7);
        fault("build (1", 8);
        fault("build 1;move 1;owe 1 \n", 22);
        fault("build 1" + times(" ", 153), 160);
        fault(times(" ", 160), 160);
        fault("  build  owe 1;", 9);
        fault("build 1 rock $ 12345", 8);
        fault("build rock rock rock", 11);
        fault(times(" ", 159) + ";", 159);
        fault(times(" ", 155) + "build", 160);
        fault(";", 0);
        fault("build 1;move 1;owe 1;build", 21);
        // The first one stands, though a later one could not stand anywhere.
        fault("build 1 1 ~", 8);
        fault("build ~ 1 1", 6);
    }

    private static void faultsOfBytes() {
        DUE.says(THREE, "also of a byte that begins none,");
        for (int b : new int[] {0, 1, 9, 13, 31, 33, '#', ',', '.', '/', ':', '>', '@', 'A', 'Z', '[', '_', '`', '{', 127, 128, 160, 233, 255}) {
            fault((char) b + "build", 0);
            faultOf("1+" + (char) b, 2);
            faultOf("rock" + (char) b, 4);
            faultOf("12" + (char) b + "4", 2);
        }
    }

    private static void faultsOfWords() {
        DUE.says(THREE, "of a WORD that is neither KEY nor NAME,");
        for (String word : new String[] {"a", "z", "e", "harm", "cell", "true", "xor", "nor", "andor", "nots", "peoples", "abcdefghijklmnopqrstuvwxyz"}) {
            faultOf(word, 0);
            faultOf("1 + " + word, 4);
            faultOf("1 " + word, 2);
            fault(word + " 1;", 0);
        }
        for (String key : new String[] {"build", "move", "owe", "or", "and"}) faultOf("1 + " + key, 4);
        fault("bulid 1;", 0);
        fault("builds 1;", 0);
        fault("build 1;mov 1;", 8);
        fault("build 1;move 1;ow 1;", 15);
        fault("build 1 o 1;", 8);
        fault("build 1 an 1;", 8);
        fault("build no 1;", 6);
    }

    private static void faultsOfNumbers() {
        DUE.says(THREE, "a NUMBER that is too long,");
        faultOf("9999", -1);
        faultOf("10000", 0);
        faultOf("1 + 99999", 4);
        faultOf("1 - 123456789", 4);
        faultOf("(00001)", 1);
        faultOf("1234 5678", 5);
        faultOf("1 12345", 2);
        fault("build " + times("1", 154), 6);
        faultOf("1234rock", 4);
        faultOf("12345rock", 0);
    }

    /** Five are open in each of these ways, and a sixth is one too many. */
    private static void faultsOfOpenOnes() {
        DUE.says(THREE, "a ( , a not, a - ahead of a ONE while 5 of these are open");
        String[] one = {"( ", "- ", "not "};
        for (int way = 0; way < 243; way++) {
            StringBuilder e = new StringBuilder();
            StringBuilder ends = new StringBuilder();
            boolean fits = true;
            int last = 0;
            for (int i = 0, rest = way; i < 5; i++, rest /= 3) {
                // A not can't stand behind a -.
                if (rest % 3 == 2 && last == 1) fits = false;
                last = rest % 3;
                e.append(one[last]);
                if (last == 0) ends.append(" )");
            }
            if (!fits) continue;
            faultOf(e + "1" + ends, -1);
            for (String sixth : one) faultOf(e + sixth + "1" + ends, e.length());
            faultOf(e + "1 - 1 + 1" + ends, -1);
        }
    }

    private static void openTillTheyEnd() {
        DUE.says(THREE, "(a ( till its ) , not and - till what they belong to ends).");
        faultOf("(((((1)))))+(((((1)))))", -1);
        faultOf("(((((1)+(1)))))+(1)", -1);
        faultOf("(((((1)+((1))))))", 9);
        faultOf("(1+(1+(1+(1+(1)))))", -1);
        faultOf("(1+(1+(1+(1+(1+(1))))))", 15);
        faultOf("(1)+(1)+(1)+(1)+(1)+(1)+(1)", -1);
        faultOf("-1+-1+-1+-1+-1+-1+-1", -1);
        faultOf("-1*-1*-1*-1*-1*-1*-1", -1);
        faultOf("1-1-1-1-1-1-1-1", -1);
        faultOf("-1*(((((1)))))", -1);
        faultOf("-(((((1)))))", 5);
        faultOf("-((((1))))*(((((1)))))", -1);
        faultOf("not 1 and not 1 and not 1 or not 1 or not 1 or not 1", -1);
        faultOf("not 1 < ((((1))))", -1);
        faultOf("not 1 < (((((1)))))", 12);
        faultOf("not 1 = ((((-1))))", 12);
        faultOf("not 1 + (((((1)))))", 12);
        faultOf("not 1 and (((((1)))))", -1);
        faultOf("not 1 or (((((1)))))", -1);
        faultOf("not (1) or (((((1)))))", -1);
        faultOf("(not 1 and ((((1)))))", -1);
        faultOf("(not 1 < ((((1)))))", 12);
        fault("build (((((1)))));move (((((1)))));owe -----1;", -1);
    }

    private static void texts() {
        DUE.says(THREE, "TEXTS are numbered from 0 on, 6 at most; TEXT 0, at first, and THE RULE:");
        HollowShire x = new HollowShire();
        DUE.is("one at first", x.count(7), 1);
        DUE.is("the rule at first", x.count(8), 0);
        for (int t = 1; t < 6; t++) DUE.is("number", Due.text(x, "build " + t + ";move 0;owe 0;"), t);
        DUE.is("there are 6", x.count(7), 6);
        DUE.is("the seventh", Due.text(x, "build 6;move 0;owe 0;"), -4);
        DUE.is("the rule is still 0", x.count(8), 0);
        for (int t = 1; t < 6; t++) {
            x.force(t);
            DUE.is("text " + t, x.law(0, 0, 0), t);
        }
        DUE.is("there is no text 6", x.force(6), -2);
        HollowShire shorter = new HollowShire();
        Due.text(shorter, "build 1;move 2;owe -3;");
        Due.text(shorter, "build 4;move 5;owe 6;");
        shorter.force(2);
        for (int p = 0; p < 3; p++) DUE.is("a text behind a longer one", shorter.law(0, p, 0), 4 + p);
        shorter.force(1);
        for (int p = 0; p < 3; p++) DUE.is("the longer one", shorter.law(0, p, 0), p < 2 ? p + 1 : -3);
    }

    private static void firstText() {
        DUE.says(THREE, "build doubt < 30 and rock < 2 ; move 60 < most or fell ; owe pump * 3 + rock ;");
        int[][] builds = {{14, 0, 1}, {15, 0, 0}, {14, 1, 1}, {14, 2, 0}, {14, 3, 0}};
        for (int[] t : builds) {
            HollowShire x = new HollowShire();
            x.sign(2, 9, t[0]);
            x.ground(9, t[1], 0);
            DUE.is("build by " + t[0] + " in rock " + t[1], x.law(9, 0, 0), t[2]);
        }
        int[][] moves = {{45, 0}, {46, 1}};
        for (int[] t : moves) {
            HollowShire x = new HollowShire();
            x.sign(2, 9, t[0]);
            DUE.is("move by most " + (t[0] + 15), x.law(9, 1, 0), t[1]);
            x.ground(9, 0, 200);
            x.run(1);
            DUE.is("move of one that fell", x.law(9, 1, 1), 1);
        }
        HollowShire x = new HollowShire();
        for (int p = 0; p < 6; p++) {
            DUE.is("owe by " + p, x.law(9, 2, 0), 3 * p);
            x.pump(9);
            x.pumping(p, 1);
        }
        x.ground(9, 3, 0);
        DUE.is("owe by 6 pumps in a mine", x.law(9, 2, 0), 21);
    }

    private static HollowShire ruled(String text) {
        HollowShire x = new HollowShire();
        Due.rule(x, text);
        return x;
    }

    private static void namesOfACell() {
        DUE.says(THREE, "Of a CELL as KNOWN in a MONTH: least, most: its SPAN; doubt: most less least, 0 at least; rock; people: PEOPLE of HOUSES "
            + "there that are neither GONE nor MOVED (now); pump: how many PUMPS NEAR it PUMP (now); fell: 1, if it FELL by that MONTH, else 0; "
            + "month: that MONTH.");
        HollowShire x = ruled("build doubt;move least;owe most;");
        x.sign(1, 9, 35);
        x.run(1);
        int[][] tries = {{57, 2, 72}, {56, 1, 71}, {55, 0, 70}, {54, 0, 69}, {0, 0, 15}};
        for (int[] t : tries) {
            x.image();
            x.sign(2, 9, t[0]);
            DUE.is("doubt by most " + t[2], x.law(9, 0, 1), t[1]);
            DUE.is("least", x.law(9, 1, 1), 70);
            DUE.is("most", x.law(9, 2, 1), t[2]);
        }
        DUE.is("doubt as known in 0", x.law(9, 0, 0), 130);
        DUE.is("most as known in 0", x.law(9, 2, 0), 200);
        HollowShire now = ruled("build people*10+rock;move pump;owe fell*1000+month;");
        now.house(9, 1, 99);
        now.house(9, 1, 1);
        now.house(10, 1, 50);
        now.pump(9);
        now.pump(10);
        now.pump(18);
        for (int p = 0; p < 3; p++) now.pumping(p, 1);
        DUE.is("people and rock", now.law(9, 0, 0), 1000);
        DUE.is("pumps, not aslant", now.law(9, 1, 0), 2);
        now.move(0);
        now.pumping(0, 0);
        now.ground(9, 1, 91);
        now.run(3);
        DUE.is("moved, gone, rock", now.law(9, 0, 0), 1);
        DUE.is("one pump pumps now", now.law(9, 1, 0), 1);
        DUE.is("it fell in month 0", now.law(9, 2, 0), 1000);
        DUE.is("known 3", now.law(9, 2, 3), 1003);
        now.ground(10, 0, 121);
        now.run(1);
        DUE.is("known ahead of its fall", now.law(10, 2, 2), 2);
        DUE.is("known in the month of its fall", now.law(10, 2, 3), 1003);
        DUE.is("known behind it", now.law(10, 2, 4), 1004);
        DUE.is("one that didn't fall", now.law(11, 2, 4), 4);
    }

    /** Parts of the harm of a house, which went with its cell, by this owe. */
    private static void parts(int worth, int people, String owe, long firm) {
        HollowShire x = ruled("build 0;move 0;owe " + owe + ";");
        x.house(9, worth, people);
        x.ground(9, 0, 200);
        x.run(1);
        long harm = worth + 1000L * people;
        DUE.is("the firm's of " + harm + " by " + owe, x.part(0, 0), firm);
        DUE.is("the owner's of " + harm + " by " + owe, x.part(0, 1), harm - firm);
    }

    private static void partsOfTheHarm() {
        DUE.says(THREE, "PARTS of the HARM of a HOUSE that is GONE: as many parts as owe comes to for its CELL (0 .. 99; else the bound), "
            + "as KNOWN in the MONTH in which it went, are the firm's, one is the owner's: the firm's is cut, the owner's all else.");
        parts(1000, 0, "0-1", 0);
        parts(1000, 0, "-9999", 0);
        parts(1000, 0, "0", 0);
        parts(1000, 0, "1", 500);
        parts(1001, 0, "1", 500);
        parts(1, 0, "1", 0);
        parts(2, 0, "1", 1);
        parts(1000, 0, "2", 666);
        parts(1000, 0, "98", 989);
        parts(1000, 0, "99", 990);
        parts(1000, 0, "100", 990);
        parts(1000, 0, "9999", 990);
        parts(1, 0, "99", 0);
        parts(100, 0, "99", 99);
        parts(99, 0, "99", 98);
        parts(1000, 0, GREATEST, 990);
        parts(1000, 0, GREATEST + "+1", 0);
        parts(99999, 0, "98", 98988);
        parts(99999, 0, "99", 98999);
        parts(99999, 0, "100", 98999);
        parts(99999, 99, "99", 197009);
        parts(99999, 99, "98", 196988);
    }

    private static void partsAsKnown() {
        DUE.says(THREE, "as KNOWN in the MONTH in which it went,");
        HollowShire x = ruled("build 0;move 0;owe month+fell+least;");
        x.house(9, 1000, 0);
        x.run(2);
        x.ground(9, 0, 200);
        x.sign(1, 9, 1);
        x.run(1);
        // Month 2, fell 1, least 2: five parts.
        DUE.is("known in month 2", x.part(0, 0), 833);
        x.sign(1, 9, 40);
        x.mend(0, 50);
        DUE.is("what is told in month 3 is not known", x.part(0, 0), 833);
        x.run(3);
        DUE.is("nor later", x.part(0, 1), 167);
        Due.rule(x, "build 0;move 0;owe pump+rock+people;");
        DUE.is("another rule, no pump", x.part(0, 0), 0);
        x.pump(10);
        x.pumping(0, 1);
        DUE.is("a pump pumps now", x.part(0, 0), 500);
    }

    private static void promise16() {
        DUE.says("Promise 16", "The n lowest bytes of w, the highest first, come behind THE TAPE's: how many it has.");
        HollowShire x = new HollowShire();
        DUE.is("eight", x.feed(0x6275696c6420313bL, 8), 8);
        DUE.is("seven of eight", x.feed(0x7e6d6f766520323bL, 7), 15);
        DUE.is("six of eight", x.feed(0x7e7e6f776520333bL, 6), 21);
        DUE.is("one of eight: a blank", x.feed(0x7e7e7e7e7e7e7e20L, 1), 22);
        DUE.is("all is in order", x.text(), 1);
        x.force(1);
        for (int p = 0; p < 3; p++) DUE.is("part " + p, x.law(0, p, 0), p + 1);
        DUE.is("bytes of 255", x.feed(-1, 8), 8);
        DUE.is("of 128", x.feed(128, 1), 9);
        DUE.is("255 begins no token", x.text(), -100);
        DUE.says("Promise 16", "BAD: n not 1 .. 8; FULL.");
        new Edges(DUE, Shires.MIXED, "feed ' '", (s, a) -> s.feed(0x2020202020202020L, a[0])).arg(5, 1, 8, -2).check();
        new Edges(DUE, Shires.FULL, "feed ' '", (s, a) -> s.feed(0x2020202020202020L, a[0])).arg(5, 1, 8, -2).check();
        Twins.refused(DUE, "full", Shires.FULL, s -> s.feed(' ', 1), -4);
        Twins.refused(DUE, "full, eight", Shires.FULL, s -> s.feed(0, 8), -4);
        for (int n = 1; n <= 8; n++) {
            int size = n;
            Supplier<HollowShire> almost = () -> {
                HollowShire s = new HollowShire();
                Due.feed(s, times(";", 161 - size));
                return s;
            };
            Twins.refused(DUE, size + " behind " + (161 - size), almost, s -> s.feed(0x2020202020202020L, size), -4);
            HollowShire s = new HollowShire();
            Due.feed(s, times(";", 160 - n));
            DUE.is(n + " behind " + (160 - n), s.feed(0x2020202020202020L, n), 160);
        }
    }

    private static void promise17() {
        DUE.says("Promise 17", "THE TAPE, which is empty then, is a TEXT: its number; -100 less the place of its FAULT.");
        HollowShire x = new HollowShire();
        DUE.is("an empty tape", x.text(), -100);
        DUE.is("a fault at 159", Due.text(x, times(" ", 159) + "~"), -259);
        DUE.is("a fault at 160", Due.text(x, times(" ", 160)), -260);
        DUE.is("the tape is empty", x.count(9), 0);
        DUE.is("no text came", x.count(7), 1);
        DUE.is("its number", Due.text(x, "build 1;move 2;owe 3;"), 1);
        DUE.is("the tape is empty", x.count(9), 0);
        DUE.is("an empty tape then", x.text(), -100);
        DUE.is("a text came", x.count(7), 2);
        DUE.is("the rule stays", x.count(8), 0);
        DUE.is("what is faulty leaves nothing", Due.text(x, "build 9;move 9;owe 9"), -120);
        x.force(1);
        DUE.is("the text is as it was", x.law(0, 0, 0), 1);
        DUE.says("Promise 17", "FULL (ahead of the FAULT; then THE TAPE stays).");
        Twins.refused(DUE, "full, with a fault on the tape", Shires.FULL, HollowShire::text, -4);
        Supplier<HollowShire> good = () -> {
            HollowShire s = new HollowShire();
            for (int t = 1; t < 6; t++) Due.text(s, "build 1;move 1;owe 1;");
            Due.feed(s, "build 2;move 2;owe 2;");
            return s;
        };
        Twins.refused(DUE, "full, with a text on the tape", good, HollowShire::text, -4);
        DUE.is("the tape stays", good.get().count(9), 21);
        Supplier<HollowShire> empty = () -> {
            HollowShire s = new HollowShire();
            for (int t = 1; t < 6; t++) Due.text(s, "build 1;move 1;owe 1;");
            return s;
        };
        Twins.refused(DUE, "full, with an empty tape", empty, HollowShire::text, -4);
    }

    private static void promise18() {
        DUE.says("Promise 18", "A TEXT is THE RULE: which was. BAD.");
        HollowShire x = new HollowShire();
        DUE.is("the same", x.force(0), 0);
        Due.text(x, "build 1;move 1;owe 1;");
        DUE.is("which was", x.force(1), 0);
        DUE.is("the rule", x.count(8), 1);
        DUE.is("the same again", x.force(1), 1);
        DUE.is("the first again", x.force(0), 1);
        new Edges(DUE, Shires.FRESH, "force", (s, a) -> s.force(a[0])).arg(0, 0, 0, -2).check();
        new Edges(DUE, Shires.MIXED, "force", (s, a) -> s.force(a[0])).arg(0, 0, 1, -2).check();
        new Edges(DUE, Shires.FULL, "force", (s, a) -> s.force(a[0])).arg(0, 0, 5, -2).check();
    }

    private static void promise19() {
        DUE.says("Promise 19", "What a part (0 build, 1 move, 2 owe) of THE RULE comes to for a CELL, as KNOWN.");
        HollowShire x = ruled("build 5;move 0-6;owe month;");
        x.run(1);
        DUE.is("build", x.law(0, 0, 1), 5);
        DUE.is("move", x.law(63, 1, 1), -6);
        DUE.is("owe", x.law(63, 2, 1), 1);
        DUE.is("owe as known in 0", x.law(0, 2, 0), 0);
        DUE.says("Promise 19", "NO: none such.");
        new Edges(DUE, Shires.MIXED, "law", (s, a) -> s.law(a[0], a[1], a[2]))
            .arg(41, 0, 63, Due.NO).arg(1, 0, 2, Due.NO).arg(2, 0, 3, Due.NO).order(Due.NO).check();
        Twins.unchanged(DUE, "asking", Shires.MIXED, s -> s.law(9, 1, 3));
    }

    private static void promise20() {
        DUE.says("Promise 20", "CELLS (bits) with people for which move isn't 0, as KNOWN. NO: known.");
        HollowShire x = ruled("build 0;move month-1;owe 0;");
        DUE.is("nobody", x.moved(0), 0);
        int[] cells = {0, 31, 32, 62, 63};
        for (int c : cells) x.house(c, 1, 1);
        x.house(5, 1, 0);
        x.house(6, 1, 99);
        x.move(6);
        x.run(2);
        long bits = 1L | 1L << 31 | 1L << 32 | 1L << 62 | 1L << 63;
        DUE.is("below 0 isn't 0", x.moved(0), bits);
        DUE.is("0 is", x.moved(1), 0);
        DUE.is("1 isn't", x.moved(2), bits);
        x.move(4);
        x.ground(0, 0, 200);
        x.run(1);
        DUE.is("63 is moved, 0 is gone", x.moved(2), 1L << 31 | 1L << 32 | 1L << 62);
        x.house(63, 1, 1);
        DUE.is("others came", x.moved(2), 1L << 31 | 1L << 32 | 1L << 62 | 1L << 63);
        // These two cells alone are the number that NO is; the bits stand all the same.
        HollowShire last = ruled("build 0;move 1;owe 0;");
        last.house(62, 1, 1);
        last.house(63, 1, 1);
        DUE.is("62 and 63", last.moved(0), 1L << 62 | 1L << 63);
        HollowShire by = ruled("build 0;move least;owe 0;");
        for (int c = 0; c < 3; c++) by.house(c, 1, 5);
        by.run(1);
        by.sign(0, 0, 1);
        by.sign(1, 1, 0);
        DUE.is("by each cell's own span", by.moved(1), 1);
        DUE.is("as known ahead", by.moved(0), 0);
        new Edges(DUE, Shires.MIXED, "moved", (s, a) -> s.moved(a[0])).arg(2, 0, 3, Due.NO).check();
        Twins.unchanged(DUE, "asking", Shires.MIXED, s -> s.moved(3));
    }

    private static void promise21() {
        DUE.says("Promise 21", "PARTS of a HOUSE, what 0 the firm's, 1 the owner's. NO: HOUSE, what; STATE (-3): it isn't GONE.");
        HollowShire x = new HollowShire();
        x.house(9, 1000, 99);
        x.move(0);
        x.ground(9, 1, 200);
        DUE.is("it isn't gone, though it is moved", x.part(0, 0), -3);
        x.run(1);
        DUE.is("the firm's half, without people", x.part(0, 0), 500);
        DUE.is("the owner's half", x.part(0, 1), 500);
        new Edges(DUE, Shires.MIXED, "part", (s, a) -> s.part(a[0], a[1])).arg(1, 0, 3, Due.NO).arg(1, 0, 1, Due.NO).order(Due.NO).check();
        new Edges(DUE, Shires.FULL, "part", (s, a) -> s.part(a[0], 0)).arg(1, 0, 13, Due.NO).check();
        for (int w = 0; w < 2; w++) {
            int what = w;
            Twins.refused(DUE, "it isn't gone, what " + w, Shires.MIXED, s -> s.part(0, what), -3);
        }
        Twins.refused(DUE, "it isn't gone, what 2", Shires.MIXED, s -> s.part(0, 2), Due.NO);
        Twins.refused(DUE, "there are no houses", Shires.FRESH, s -> s.part(0, 0), Due.NO);
        Twins.unchanged(DUE, "asking", Shires.MIXED, s -> s.part(1, 0));
    }
}
