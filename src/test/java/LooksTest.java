/** Promises 22 to 26: looks, chances, warnings. */
public final class LooksTest {
    private static final Due DUE = new Due();

    public static void main(String[] args) {
        promise22LooksRefuse();
        promise22Looks();
        promise22LookAtCell0();
        promise23LookTold();
        promise24Often();
        promise25Warn();
        promise26Warned();
        promise26InMonth0();
        promise26BehindAnImage();
        DUE.end("LooksTest");
    }

    private static void promise22LooksRefuse() {
        HollowShire x = new HollowShire();
        DUE.is("22 no sheet", x.looks(4, -1, 9), -1);
        DUE.is("22 no sheet below", x.looks(-1, 0, 0), -1);
        DUE.is("22 missing", x.looks(0, -1, 9), -11);
        Due.fill(x, 0, 2, 1, 1, 1);
        DUE.is("22 odd", x.looks(0, 0, 0), -2);
        x.sheet(0, 2, 18);
        for (int i = 0; i < 18; i++) x.cell(0, i, 1);
        DUE.is("22 nine", x.looks(0, 0, 0), -2);
        Due.fill(x, 0, 2, 64, 1);
        DUE.is("22 no cell", x.looks(0, 0, 0), -2);
        Due.fill(x, 0, 2, -1, 1);
        DUE.is("22 no cell below", x.looks(0, 0, 0), -2);
        Due.fill(x, 0, 2, 1, 0);
        DUE.is("22 price 0", x.looks(0, 0, 0), -2);
        Due.fill(x, 0, 2, 1, 10000);
        DUE.is("22 price 10000", x.looks(0, 0, 0), -2);
        Due.fill(x, 0, 2, 63, 9999);
        DUE.is("22 coin -1", x.looks(0, -1, 0), -2);
        DUE.is("22 coin 1000001", x.looks(0, 1000001, 0), -2);
        DUE.is("22 known 1", x.looks(0, 0, 1), -2);
        DUE.is("22 known -1", x.looks(0, 0, -1), -2);
        DUE.is("22 nothing was found", x.lookTold(), 0);
        DUE.is("22 all is as told", x.looks(0, 1000000, 0), 170);
        DUE.is("22 a refusal changes nothing", x.looks(0, -1, 0), -2);
        DUE.is("22 the set is kept", x.lookTold(), 1);
        DUE.is("22 a coin too few", x.looks(0, 9998, 0), 0);
        DUE.is("22 a price that fits", x.looks(0, 9999, 0), 170);
    }

    private static void promise22Looks() {
        HollowShire x = new HollowShire();
        x.sheet(0, 2, 0);
        DUE.is("22 no looks", x.looks(0, 0, 0), 0);
        x.house(9, 1, 3);
        x.house(10, 1, 9);
        x.move(1);
        x.sign(2, 11, 30);
        x.sign(2, 12, 14);
        Due.fill(x, 0, 2, 9, 10, 10, 4, 11, 1, 12, 1, 9, 3, 13, 3);
        // Worth: cell 9 170 * 4, cell 10 170 (moved), cell 11 nothing (doubt 30), cell 12 nothing (29), cell 13 170.
        DUE.is("22 all", x.looks(0, 1000, 0), 1020);
        DUE.is("22 the least bits of like ones", x.lookTold(), 1 | 2 | 32);
        DUE.is("22 the cheaper one of two", x.looks(0, 10, 0), 1020);
        DUE.is("22 its bits", x.lookTold(), 2 | 16 | 32);
        DUE.is("22 seven", x.looks(0, 7, 0), 850);
        DUE.is("22 least of like ones", x.lookTold(), 2 | 16);
        DUE.is("22 six", x.looks(0, 6, 0), 850);
        DUE.is("22 then the other one", x.lookTold(), 16 | 32);
        DUE.is("22 two", x.looks(0, 2, 0), 0);
        DUE.is("22 worth nothing, so none", x.lookTold(), 0);
        x.run(1);
        x.mend(0, 50);
        x.sign(0, 13, 1);
        x.sign(2, 9, 5);
        x.sign(1, 9, 99);
        DUE.is("22 as known now", x.looks(0, 1000, 1), 170 + 169);
        DUE.is("22 as known ahead", x.looks(0, 1000, 0), 1020);
        Due.fill(x, 1, 2, 9, 5, 9, 5, 9, 5);
        DUE.is("22 told thrice, worth once", x.looks(1, 15, 0), 680);
        DUE.is("22 the first", x.lookTold(), 1);
        Due.fill(x, 2, 0, 20, 1, 21, 127);
        DUE.is("22 by bytes", x.looks(2, 128, 0), 340);
        x.cell(2, 3, 128);
        DUE.is("22 a byte of 128 is below 0", x.looks(2, 128, 0), -2);
        x.sheet(3, 1, 16);
        for (int i = 0; i < 8; i++) {
            x.cell(3, 2 * i, 40 + i);
            x.cell(3, 2 * i + 1, 9999);
        }
        DUE.is("22 eight", x.looks(3, 79992, 0), 1360);
        DUE.is("22 all eight", x.lookTold(), 255);
        DUE.is("22 seven of eight", x.looks(3, 79991, 0), 1190);
        DUE.is("22 the first seven", x.lookTold(), 127);
    }

    private static void promise22LookAtCell0() {
        HollowShire x = new HollowShire();
        Due.fill(x, 0, 2, 0, 5, 63, 6);
        DUE.is("22 cell 0", x.looks(0, 5, 0), 170);
        DUE.is("22 cells 0 and 63", x.looks(0, 11, 0), 340);
    }

    private static void promise23LookTold() {
        HollowShire x = new HollowShire();
        DUE.is("23 at first", x.lookTold(), 0);
        Due.fill(x, 0, 2, 5, 9, 6, 1);
        x.looks(0, 1, 0);
        DUE.is("23 the second", x.lookTold(), 2);
        x.image();
        x.sheet(0, -1, 0);
        x.back();
        DUE.is("23 it stays", x.lookTold(), 2);
    }

    private static void often(HollowShire x, int rock, long above, long below) {
        DUE.is("24 often(" + rock + ", 0)", x.often(rock, 0), above);
        DUE.is("24 often(" + rock + ", 1)", x.often(rock, 1), below);
    }

    private static void promise24Often() {
        HollowShire x = new HollowShire();
        DUE.is("24 rock 4", x.often(4, 0), Due.NO);
        DUE.is("24 rock -1", x.often(-1, 0), Due.NO);
        DUE.is("24 part 2", x.often(0, 2), Due.NO);
        DUE.is("24 part -1", x.often(0, -1), Due.NO);
        for (int rock = 0; rock < 4; rock++) often(x, rock, 0, 1);
        x.ground(0, 1, 0);
        x.ground(1, 2, 71);
        x.ground(2, 2, 71);
        x.ground(3, 2, 0);
        x.ground(4, 2, 0);
        x.ground(5, 3, 61);
        x.image();
        x.run(1);
        often(x, 0, 0, 1);
        often(x, 1, 0, 1);
        often(x, 2, 1, 2);
        often(x, 3, 1, 1);
        x.run(1);
        often(x, 2, 1, 3);
        often(x, 3, 1, 1);
        x.ground(3, 3, 0);
        x.run(1);
        // Salt: 4 + 2 + 1 months, 2 falls; the mine: 1 + 1 months, 1 fall.
        often(x, 2, 2, 7);
        often(x, 3, 1, 2);
        x.back();
        often(x, 2, 0, 1);
        x.run(1);
        often(x, 2, 1, 2);
    }

    private static void promise25Warn() {
        HollowShire x = Due.withFallen(7);
        DUE.is("25 no cell", x.warn(64), -1);
        DUE.is("25 no cell below", x.warn(-1), -1);
        DUE.is("25 fell", x.warn(7), -3);
        for (int i = 0; i < 30; i++) DUE.is("25 number", x.warn(i % 2 * 63), i);
        DUE.is("25 full", x.warn(0), -4);
        DUE.is("25 fell ahead of full", x.warn(7), -3);
        DUE.is("25 warnings", x.count(6), 30);
    }

    private static void promise26Warned() {
        HollowShire x = new HollowShire();
        for (int w = 0; w < 3; w++) DUE.is("26 nothing", x.warned(1, w), 0);
        DUE.is("26 0 months", x.warned(0, 0), -2);
        DUE.is("26 61 months", x.warned(61, 0), -2);
        DUE.is("26 what 3", x.warned(1, 3), -2);
        DUE.is("26 what -1", x.warned(1, -1), -2);
        x.warn(9);
        x.warn(9);
        x.warn(30);
        x.run(3);
        x.warn(10);
        x.ground(9, 0, 200);
        x.ground(10, 0, 200);
        x.ground(11, 0, 200);
        x.run(1);
        // 9, 10 and 11 fell in month 3; it is month 4.
        DUE.is("26 within 3: all of 9, 10", x.warned(3, 0), 3);
        DUE.is("26 within 2: 10 in its month", x.warned(2, 0), 1);
        DUE.is("26 missed 11", x.warned(3, 1), 1);
        DUE.is("26 missed 9, 11", x.warned(2, 1), 2);
        DUE.is("26 old: 30, 4 months ago", x.warned(3, 2), 1);
        DUE.is("26 none is older than 4", x.warned(4, 2), 0);
        DUE.is("26 old: both of 9, and 30", x.warned(2, 2), 3);
        DUE.is("26 never of it within 60", x.warned(60, 2), 0);
    }

    private static void promise26InMonth0() {
        HollowShire x = new HollowShire();
        x.ground(0, 0, 200);
        x.image();
        x.run(1);
        DUE.is("26 no warning came true", x.warned(60, 0), 0);
        DUE.is("26 missed", x.warned(60, 1), 1);
        x.back();
        x.warn(0);
        x.run(3);
        DUE.is("26 told and fell in month 0", x.warned(1, 0), 1);
        DUE.is("26 none missed", x.warned(1, 1), 0);
        DUE.is("26 none old", x.warned(1, 2), 0);
    }

    private static void promise26BehindAnImage() {
        HollowShire x = new HollowShire();
        x.image();
        x.run(10);
        x.warn(9);
        x.back();
        x.ground(9, 0, 200);
        x.run(1);
        DUE.is("26 a warning behind the fall", x.warned(60, 0), 0);
        DUE.is("26 missed", x.warned(60, 1), 1);
        DUE.is("26 of a month to come: not old", x.warned(1, 2), 0);
        x.run(10);
        DUE.is("26 one month ago", x.warned(1, 2), 0);
        x.run(1);
        DUE.is("26 two months ago", x.warned(1, 2), 1);
    }
}
