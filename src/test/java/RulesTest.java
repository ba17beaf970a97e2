/** Promises 16 to 21: the tape, texts and their faults, the rule, who is moved, parts of the harm. */
public final class RulesTest {
    private static final Due DUE = new Due();

    public static void main(String[] args) {
        promise16Feed();
        promise17Text();
        promise17Faults();
        promise17FullTapes();
        promise17FaultsOfOpenOnes();
        promise18Force();
        promise19Law();
        promise19Expressions();
        promise19Names();
        promise20Moved();
        promise21Part();
        DUE.end("RulesTest");
    }

    private static void promise16Feed() {
        HollowShire x = new HollowShire();
        DUE.is("16 0", x.feed(0, 0), -2);
        DUE.is("16 9", x.feed(0, 9), -2);
        DUE.is("16 -1", x.feed(0, -1), -2);
        DUE.is("16 one", x.feed(' ', 1), 1);
        for (int i = 0; i < 19; i++) DUE.is("16 eight", x.feed(0x2020202020202020L, 8), 9 + 8 * i);
        DUE.is("16 beyond", x.feed(0x2020202020202020L, 8), -4);
        DUE.is("16 nothing came", x.count(9), 153);
        DUE.is("16 the last seven", x.feed(-1, 7), 160);
        DUE.is("16 full", x.feed(0, 1), -4);
        DUE.is("16 bad ahead of full", x.feed(0, 9), -2);
        DUE.is("16 255 begins no token", x.text(), -253);
        // The highest of the n lowest bytes comes first: "build 1;" "move 2;" "owe 3;"
        DUE.is("16 build", x.feed(0x6275696c6420313bL, 8), 8);
        DUE.is("16 move", x.feed(0x586d6f766520323bL, 7), 15);
        DUE.is("16 owe", x.feed(0x58586f776520333bL, 6), 21);
        DUE.is("16 in order", x.text(), 1);
        x.force(1);
        for (int p = 0; p < 3; p++) DUE.is("16 part", x.law(0, p, 0), p + 1);
    }

    private static void promise17Text() {
        HollowShire x = new HollowShire();
        for (int t = 1; t < 6; t++) {
            DUE.is("17 a fault takes no number", Due.text(x, "build 1 $"), -108);
            DUE.is("17 the tape is empty then", x.count(9), 0);
            DUE.is("17 number", Due.text(x, "build 1;move 1;owe " + t + ";"), t);
            DUE.is("17 the tape is empty", x.count(9), 0);
            DUE.is("17 texts", x.count(7), t + 1);
        }
        Due.feed(x, "build $");
        DUE.is("17 full ahead of the fault", x.text(), -4);
        DUE.is("17 the tape stays", x.count(9), 7);
        DUE.is("17 the rule stays", x.count(8), 0);
    }

    private static void fault(String text, int place) {
        DUE.is("17 [" + text + "]", Due.text(new HollowShire(), text), place < 0 ? 1 : -100 - place);
    }

    private static void promise17Faults() {
        fault("", 0);
        fault("  \n ", 4);
        fault("build1;move1;owe1;", -1);
        fault("\nbuild\n1 ; move 1 ; owe 1 ;\n ", -1);
        fault("buildmove 1;", 0);
        fault("build 1;move 1;owe 1", 20);
        fault("build 1;move 1;owe 1 ", 21);
        fault("build 1;move 1;", 15);
        fault("build 1;owe 1;", 8);
        fault("move 1;", 0);
        fault("build 1;move 1;owe 1;;", 21);
        fault("build 1;move 1;owe 1; build", 22);
        fault("build 1;move 1;owe 1;\t", 21);
        fault("build ;", 6);
        fault("build 1 2;", 8);
        fault("build 12345;", 6);
        fault("build 0000;move 9999;owe 0;", -1);
        fault("build 00001;", 6);
        fault("build 1 + 12345;", 10);
        fault("build 1 12345;", 8);
        fault("build doubts;", 6);
        fault("build a;", 6);
        fault("build Rock;", 6);
        fault("build 1 > 2;", 8);
        fault("build 1/2;", 7);
        fault("build build;", 6);
        fault("build (1;", 8);
        fault("build (1));", 9);
        fault("build ();", 7);
        fault("build 1 < 2 < 3;", 12);
        fault("build 1 = 2 < 3;", 12);
        fault("build (1 < 2) < 3;move 1;owe 1;", -1);
        fault("build 1 < not 2;", 10);
        fault("build 1 + not 2;", 10);
        fault("build not 1 < 2;move not not 1;owe 1 and not 1;", -1);
        fault("build - not 1;", 8);
        fault("build 1 - - 1;move --1;owe 1*-1;", -1);
        fault("build + 1;", 6);
        fault("build * 1;", 6);
        fault("build 1 or;", 10);
        fault("build 1 and or 1;", 12);
        fault("build or 1;", 6);
        fault("build 1and 2;move 1or 2;owe 3;", -1);
        fault("build 12ab;", 8);
        fault("build rock2;", 10);
        fault("build 1 \u00e9;", 8);
        fault("build rockz;", 6);
        fault("build arock;", 6);
        fault("build xost;", 6);
        fault("build 1;move 1;owe 1;\0", 21);
        fault("build 1;move 1;owe 1;\2", 21);
        fault("build \2;move 1;owe 1;", 6);
        fault("build \3;move 1;owe 1;", 6);
        fault("build \0;", 6);
        fault("build doubt least;", 12);
        fault("build 1", 7);
        fault("build", 5);
        fault("buil", 0);
    }

    private static void promise17FullTapes() {
        StringBuilder marks = new StringBuilder();
        for (int i = 0; i < 160; i++) marks.append(';');
        HollowShire x = new HollowShire();
        DUE.is("17 160 tokens", Due.text(x, marks.toString()), -100);
        DUE.is("17 a fault at 0 is no text", x.count(7), 1);
        StringBuilder sum = new StringBuilder("build 0");
        while (sum.length() < 145) sum.append("+1");
        sum.append(";move 2;owe 3; ");
        DUE.is("17 160 bytes", sum.length(), 160);
        DUE.is("17 a text of 160 bytes", Due.text(x, sum.toString()), 1);
        x.force(1);
        DUE.is("17 its sum", x.law(5, 0, 0), 69);
        DUE.is("17 its last part", x.law(5, 2, 0), 3);
        sum.setLength(159);
        sum.append('1');
        DUE.is("17 a fault at its end", Due.text(x, sum.toString()), -259);
        sum.setLength(7);
        while (sum.length() < 160) sum.append(" ");
        DUE.is("17 it ends too early at 160", Due.text(x, sum.toString()), -260);
    }

    private static void promise17FaultsOfOpenOnes() {
        fault("build (((((1)))));move 1;owe 1;", -1);
        fault("build ((((((1))))));", 11);
        fault("build -----1;move 1;owe 1;", -1);
        fault("build ------1;", 11);
        fault("build not not not not not 1;move 1;owe 1;", -1);
        fault("build not not not not not not 1;", 26);
        fault("build not not ((-1));move 1;owe 1;", -1);
        fault("build not not ((-(1)));", 17);
        fault("build not not ((--1));", 17);
        fault("build not (((-1 * -1 + -1 < -1))) and not (((-1))); move 1; owe 1;", -1);
        fault("build not not ((( not 1 )));", 18);
        fault("build not not ((( 1 or not 1 )));", 23);
        fault("build ((((( 1 - 1 )))));move 1;owe 1;", -1);
        fault("build ((((( 1 - - 1 )))));", 16);
        fault("build ((((( 1 * ( 1 ) )))));", 16);
        fault("build ((((1) + (2))));move ((((1)+(2))));owe -(((-1) - (-1)));", -1);
        fault("build ((((( ;", 12);
    }

    private static void promise18Force() {
        HollowShire x = new HollowShire();
        DUE.is("18 -1", x.force(-1), -2);
        DUE.is("18 1 is not there yet", x.force(1), -2);
        DUE.is("18 the same", x.force(0), 0);
        Due.text(x, "build 5;move 6;owe 7;");
        DUE.is("18 told", x.count(8), 0);
        DUE.is("18 which was", x.force(1), 0);
        DUE.is("18 told then", x.count(8), 1);
        DUE.is("18 its law", x.law(0, 2, 0), 7);
        DUE.is("18 back", x.force(0), 1);
        DUE.is("18 2 is not there", x.force(2), -2);
    }

    private static void promise19Law() {
        HollowShire x = new HollowShire();
        DUE.is("19 no cell", x.law(64, 0, 0), Due.NO);
        DUE.is("19 no cell below", x.law(-1, 0, 0), Due.NO);
        DUE.is("19 part 3", x.law(0, 3, 0), Due.NO);
        DUE.is("19 part -1", x.law(0, -1, 0), Due.NO);
        DUE.is("19 known 1", x.law(0, 0, 1), Due.NO);
        DUE.is("19 known -1", x.law(0, 0, -1), Due.NO);
        // The first text: build doubt < 30 and rock < 2 ; move 60 < most or fell ; owe pump * 3 + rock ;
        DUE.is("19 build, 200 of doubt", x.law(9, 0, 0), 0);
        DUE.is("19 move, most 200", x.law(9, 1, 0), 1);
        DUE.is("19 owe", x.law(9, 2, 0), 0);
        x.ground(9, 1, 0);
        x.pump(9);
        x.pump(10);
        x.pump(18);
        x.pumping(0, 1);
        x.pumping(1, 50);
        x.pumping(2, 5);
        DUE.is("19 owe by two pumps near", x.law(9, 2, 0), 7);
        x.sign(2, 9, 45);
        x.sign(1, 9, 16);
        DUE.is("19 doubt 28", x.law(9, 0, 0), 1);
        DUE.is("19 most 60", x.law(9, 1, 0), 0);
        x.sign(2, 10, 45);
        DUE.is("19 doubt 30", x.law(10, 0, 0), 0);
        x.sign(3, 10, 62);
        DUE.is("19 doubt 29", x.law(10, 0, 0), 1);
        x.ground(9, 2, 0);
        DUE.is("19 salt", x.law(9, 0, 0), 0);
        x.ground(9, 2, 200);
        x.run(1);
        DUE.is("19 fell", x.law(9, 1, 0), 1);
        x.image();
        x.back();
        DUE.is("19 fell in month 0, known 1", x.law(9, 1, 1), 1);
    }

    private static void worth(String expression, long want) {
        HollowShire x = new HollowShire();
        x.run(2);
        DUE.is("19 text " + expression, Due.text(x, "build 0;move " + expression + ";owe 0;"), 1);
        x.force(1);
        DUE.is("19 " + expression, x.law(9, 1, 2), want);
    }

    private static void promise19Expressions() {
        worth("9999", 9999);
        worth("2 + 3 * 4", 14);
        worth("2 * 3 + 4", 10);
        worth("(2 + 3) * 4", 20);
        worth("10 - 3 - 2", 5);
        worth("10 - (3 - 2)", 9);
        worth("2 - - 3", 5);
        worth("-2 * -3", 6);
        worth("-2 + 3", 1);
        worth("-(2 + 3)", -5);
        worth("--3", 3);
        worth("1 < 2", 1);
        worth("2 < 2", 0);
        worth("-1 < 0", 1);
        worth("2 = 1 + 1", 1);
        worth("2 = 3", 0);
        worth("1 + 1 < 2 + 1", 1);
        worth("5 and 7", 1);
        worth("5 and 0", 0);
        worth("0 or -7", 1);
        worth("0 or 0", 0);
        worth("1 or 0 and 0", 1);
        worth("(1 or 0) and 0", 0);
        worth("not 5", 0);
        worth("not 0", 1);
        worth("not not 5", 1);
        worth("not 1 < 0", 1);
        worth("not 0 and 0", 0);
        worth("not 1 or 1", 1);
        worth("not 2 = 0 + 3", 1);
        worth("9999 * 9999 * 9999 * 9999", (int) (9999L * 9999 * 9999 * 9999));
        worth("9999 * 9999 * 50", (int) (9999L * 9999 * 50));
        worth("-9999 * 9999 * 30", (int) (-9999L * 9999 * 30));
        worth("month", 2);
        worth("0007", 7);
    }

    private static void promise19Names() {
        HollowShire x = new HollowShire();
        x.ground(9, 2, 60);
        x.house(9, 10, 3);
        x.house(9, 10, 4);
        x.house(9, 10, 50);
        x.house(10, 10, 90);
        x.move(2);
        x.pump(8);
        x.pump(9);
        x.pump(17);
        x.pump(18);
        x.pumping(0, 3);
        x.pumping(2, 3);
        x.pumping(3, 3);
        x.sign(2, 9, 70);
        x.run(1);
        Due.text(x, "build doubt * 1000 + least ; move most * 1000 + rock * 100 + people ; owe pump * 1000 + fell * 100 + month ;");
        x.force(1);
        DUE.is("19 doubt, least", x.law(9, 0, 1), 30055);
        DUE.is("19 most, rock, people", x.law(9, 1, 1), 85207);
        DUE.is("19 pump, fell, month", x.law(9, 2, 1), 2001);
        DUE.is("19 the month as known", x.law(9, 2, 0), 2000);
        x.sign(1, 9, 60);
        DUE.is("19 a span that is none", x.law(9, 0, 1), 120);
        DUE.is("19 as known ahead", x.law(9, 0, 0), 30055);
        x.ground(9, 2, 200);
        x.run(2);
        DUE.is("19 fell in month 1", x.law(9, 2, 1), 2101);
        DUE.is("19 not yet in month 0", x.law(9, 2, 0), 2000);
        DUE.is("19 their people are gone now", x.law(9, 1, 0), 85200);
        x.pumping(0, 0);
        DUE.is("19 pumps now", x.law(9, 2, 0), 1000);
    }

    private static void promise20Moved() {
        HollowShire x = new HollowShire();
        DUE.is("20 known 1", x.moved(1), Due.NO);
        DUE.is("20 known -1", x.moved(-1), Due.NO);
        DUE.is("20 nobody", x.moved(0), 0);
        x.house(0, 1, 1);
        x.house(63, 1, 1);
        x.house(9, 1, 0);
        x.house(10, 1, 5);
        x.house(31, 1, 5);
        x.move(3);
        DUE.is("20 cells with people", x.moved(0), 1L << 63 | 1L << 31 | 1);
        x.sign(2, 31, 45);
        x.run(1);
        x.mend(0, 46);
        DUE.is("20 most 60", x.moved(0), 1L << 63 | 1);
        DUE.is("20 most 61", x.moved(1), 1L << 63 | 1L << 31 | 1);
        Due.text(x, "build 0;move -rock;owe 0;");
        x.force(1);
        DUE.is("20 zero", x.moved(1), 0);
        x.ground(31, 1, 0);
        DUE.is("20 below zero isn't zero", x.moved(1), 1L << 31);
        x.ground(31, 3, 200);
        x.run(1);
        DUE.is("20 gone", x.moved(2), 0);
    }

    private static void promise21Part() {
        HollowShire x = new HollowShire();
        DUE.is("21 none", x.part(0, 0), Due.NO);
        x.house(9, 1000, 1);
        x.house(10, 1001, 7);
        x.house(10, 1, 0);
        x.move(1);
        DUE.is("21 what 2", x.part(0, 2), Due.NO);
        DUE.is("21 what -1", x.part(0, -1), Due.NO);
        DUE.is("21 behind", x.part(3, 0), Due.NO);
        DUE.is("21 below", x.part(-1, 0), Due.NO);
        DUE.is("21 stands", x.part(0, 0), -3);
        x.run(2);
        x.ground(9, 2, 200);
        x.ground(10, 0, 200);
        x.run(1);
        DUE.is("21 two thirds, cut", x.part(0, 0), 1333);
        DUE.is("21 all else", x.part(0, 1), 667);
        DUE.is("21 owe 0: firm", x.part(1, 0), 0);
        DUE.is("21 owe 0: owner", x.part(1, 1), 1001);
        x.house(20, 99999, 0);
        x.ground(20, 0, 200);
        x.run(1);
        part(x, "month + 1", 1, 750, 251);
        part(x, "1", 2, 0, 1);
        part(x, "-5", 1, 0, 1001);
        part(x, "99", 1, 990, 11);
        DUE.is("21 the bound is 99: firm", x.part(3, 0), 98999);
        part(x, "100", 3, 98999, 1000);
        DUE.is("21 full of texts", x.count(7), 6);
    }

    private static void part(HollowShire x, String owe, int h, long firm, long owner) {
        x.force(Due.text(x, "build 0;move 0;owe " + owe + ";"));
        DUE.is("21 firm by " + owe, x.part(h, 0), firm);
        DUE.is("21 owner by " + owe, x.part(h, 1), owner);
    }
}
