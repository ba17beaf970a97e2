/** Promises 1 to 8, and how a month goes by. */
public final class GroundTest {
    private static final Due DUE = new Due();

    public static void main(String[] args) {
        promise1NewObject();
        promise2Ground();
        promise3House();
        promise4Pump();
        promise5Pumping();
        promise6Rain();
        promise7Move();
        promise8Run();
        rainFillsCells();
        pumpsTakeWhatIsThere();
        waterFlowsAllAtOnce();
        waterFlowsInTheLastRow();
        hollowsGrowByEachWater();
        hollowsGrowTo200();
        roofsBearByRockAndWater();
        fallenCellsGrowNoMore();
        housesGoWithTheirCell();
        DUE.end("GroundTest");
    }

    private static void promise1NewObject() {
        HollowShire x = new HollowShire();
        long[] counts = {0, 0, 0, 0, 0, 0, 0, 1, 0, 0, 0, 0};
        for (int w = 0; w < 12; w++) DUE.is("1 count(" + w + ")", x.count(w), counts[w]);
        long[] cell = {0, 0, -1, -3, 0};
        for (int c = 0; c < 64; c++) {
            for (int w = 0; w < 5; w++) DUE.is("1 cellTold(" + c + ", " + w + ")", x.cellTold(c, w), cell[w]);
            DUE.is("1 hollow of " + c, x.ground(c, 0, 0), 0);
        }
        DUE.is("1 lookTold", x.lookTold(), 0);
        DUE.is("1 planned", x.planned(), 0);
        DUE.is("1 back", x.back(), -3);
        for (int s = 0; s < 4; s++) DUE.is("1 sheet missing", x.cell(s, 0, 0), -11);
        DUE.is("NONE", HollowShire.NONE, -1);
        DUE.is("BAD", HollowShire.BAD, -2);
        DUE.is("STATE", HollowShire.STATE, -3);
        DUE.is("FULL", HollowShire.FULL, -4);
        DUE.is("NO", HollowShire.NO, -4611686018427387904L);
    }

    private static void promise2Ground() {
        HollowShire x = new HollowShire();
        DUE.is("2 below", x.ground(-1, 0, 0), -1);
        DUE.is("2 beyond", x.ground(64, 9, 999), -1);
        DUE.is("2 rock below", x.ground(5, -1, 7), -2);
        DUE.is("2 rock above", x.ground(5, 4, 7), -2);
        DUE.is("2 hollow below", x.ground(5, 0, -1), -2);
        DUE.is("2 hollow above", x.ground(5, 0, 201), -2);
        DUE.is("2 nothing was changed", x.ground(5, 3, 60), 0);
        DUE.is("2 what it was", x.ground(5, 1, 200), 60);
        DUE.is("2 rock is kept", x.cellTold(5, 0), 1);
        DUE.is("2 the last cell", x.ground(63, 2, 0), 0);
        x.run(1);
        DUE.is("2 fell", x.ground(5, 0, 0), -3);
        DUE.is("2 bad ahead of fell", x.ground(5, 4, 0), -2);
        DUE.is("2 rock stays", x.cellTold(5, 0), 1);
    }

    private static void promise3House() {
        HollowShire x = Due.withFallen(7);
        DUE.is("3 no cell", x.house(64, 0, 100), -1);
        DUE.is("3 no cell below", x.house(-1, 1, 1), -1);
        DUE.is("3 worth 0", x.house(0, 0, 1), -2);
        DUE.is("3 worth 100000", x.house(0, 100000, 1), -2);
        DUE.is("3 people -1", x.house(0, 1, -1), -2);
        DUE.is("3 people 100", x.house(0, 1, 100), -2);
        DUE.is("3 bad ahead of fell", x.house(7, 0, 1), -2);
        DUE.is("3 fell", x.house(7, 1, 1), -3);
        for (int h = 0; h < 14; h++) DUE.is("3 number", x.house(h % 2 * 63, h % 2 == 0 ? 1 : 99999, h % 2 * 99), h);
        DUE.is("3 full", x.house(0, 1, 1), -4);
        DUE.is("3 fell ahead of full", x.house(7, 1, 1), -3);
        DUE.is("3 houses", x.count(2), 14);
        DUE.is("3 worth", x.houseTold(13, 1), 99999);
    }

    private static void promise4Pump() {
        HollowShire x = Due.withFallen(7);
        DUE.is("4 no cell", x.pump(64), -1);
        DUE.is("4 no cell below", x.pump(-1), -1);
        DUE.is("4 in a cell that fell", x.pump(7), 0);
        for (int p = 1; p < 6; p++) DUE.is("4 number", x.pump(63), p);
        DUE.is("4 full", x.pump(0), -4);
        DUE.is("4 no cell ahead of full", x.pump(64), -1);
        DUE.is("4 pumps", x.count(3), 6);
    }

    private static void promise5Pumping() {
        HollowShire x = new HollowShire();
        DUE.is("5 none", x.pumping(0, 51), -1);
        x.pump(3);
        DUE.is("5 none below", x.pumping(-1, 0), -1);
        DUE.is("5 none behind", x.pumping(1, 0), -1);
        DUE.is("5 51", x.pumping(0, 51), -2);
        DUE.is("5 -1", x.pumping(0, -1), -2);
        DUE.is("5 first", x.pumping(0, 50), 0);
        DUE.is("5 then", x.pumping(0, 0), 50);
        DUE.is("5 last", x.pumping(0, 1), 0);
    }

    private static void promise6Rain() {
        HollowShire x = new HollowShire();
        DUE.is("6 51", x.rain(51), -2);
        DUE.is("6 -1", x.rain(-1), -2);
        DUE.is("6 first", x.rain(50), 0);
        DUE.is("6 then", x.rain(0), 50);
        DUE.is("6 last", x.rain(7), 0);
        DUE.is("6 told", x.count(11), 7);
    }

    private static void promise7Move() {
        HollowShire x = new HollowShire();
        DUE.is("7 none", x.move(0), -1);
        x.house(5, 10, 42);
        x.house(6, 10, 43);
        DUE.is("7 below", x.move(-1), -1);
        DUE.is("7 behind", x.move(2), -1);
        DUE.is("7 people", x.move(0), 42);
        DUE.is("7 moved", x.move(0), -3);
        DUE.is("7 told", x.houseTold(0, 4), 1);
        DUE.is("7 the other", x.houseTold(1, 4), 0);
        x.ground(6, 0, 200);
        x.run(1);
        DUE.is("7 gone", x.move(1), -3);
        DUE.is("7 gone is not moved", x.houseTold(1, 4), 0);
    }

    private static void promise8Run() {
        HollowShire x = new HollowShire();
        DUE.is("8 0", x.run(0), -2);
        DUE.is("8 -1", x.run(-1), -2);
        DUE.is("8 61", x.run(61), -2);
        DUE.is("8 1", x.run(1), 1);
        for (int i = 1; i < 20; i++) DUE.is("8 60", x.run(60), 60 * i + 1);
        DUE.is("8 beyond", x.run(60), -4);
        DUE.is("8 nothing went by", x.count(0), 1141);
        DUE.is("8 to the last", x.run(59), 1200);
        DUE.is("8 full", x.run(1), -4);
        DUE.is("8 bad ahead of full", x.run(61), -2);
        DUE.is("8 far", x.run(Integer.MAX_VALUE), -2);
    }

    private static void rainFillsCells() {
        HollowShire x = new HollowShire();
        x.rain(50);
        for (int i = 0; i < 3; i++) x.run(60);
        x.run(19);
        DUE.is("(1) rain", x.cellTold(27, 1), 9950);
        x.run(1);
        DUE.is("(1) 9999 at most", x.cellTold(27, 1), 9999);
        x.run(1);
        DUE.is("(1) still", x.cellTold(0, 1), 9999);
    }

    private static void pumpsTakeWhatIsThere() {
        HollowShire x = new HollowShire();
        x.rain(50);
        x.ground(0, 1, 0);
        x.pump(0);
        x.pump(0);
        x.pumping(0, 33);
        x.pumping(1, 40);
        x.run(1);
        // 33, then 17 are pumped: 6 and 3; from both sides 6 come: 1 each.
        DUE.is("(2) each by itself", x.ground(0, 1, 0), 11);
        DUE.is("(2) water", x.cellTold(0, 1), 12);
        HollowShire dry = new HollowShire();
        dry.ground(0, 2, 9);
        dry.pump(0);
        dry.pumping(0, 50);
        dry.run(3);
        DUE.is("(2) nothing is there", dry.ground(0, 2, 0), 9);
        DUE.is("(2) no water", dry.cellTold(0, 1), 0);
    }

    private static void waterFlowsAllAtOnce() {
        HollowShire x = new HollowShire();
        x.rain(50);
        x.pump(9);
        x.pumping(0, 50);
        x.run(1);
        DUE.is("(3) from four sides", x.cellTold(9, 1), 24);
        int[] beside = {1, 8, 10, 17};
        for (int c : beside) DUE.is("(3) beside", x.cellTold(c, 1), 44);
        DUE.is("(3) not beside", x.cellTold(0, 1), 50);
        DUE.is("(3) nor across the border", x.cellTold(16, 1), 50);
        x.rain(0);
        x.pumping(0, 0);
        x.run(1);
        // An eighth of 20 flows in from each side; 6 more on a far side are no eighth.
        DUE.is("(3) more", x.cellTold(9, 1), 32);
        DUE.is("(3) less", x.cellTold(10, 1), 42);
        DUE.is("(3) cut", x.cellTold(11, 1), 50);
        HollowShire edge = new HollowShire();
        edge.rain(50);
        edge.pump(7);
        edge.pumping(0, 50);
        edge.run(1);
        DUE.is("(3) rows end", edge.cellTold(8, 1), 50);
        DUE.is("(3) a corner has two sides", edge.cellTold(7, 1), 12);
    }

    private static void waterFlowsInTheLastRow() {
        HollowShire x = new HollowShire();
        x.rain(50);
        x.pump(62);
        x.pumping(0, 50);
        x.run(1);
        DUE.is("(3) from three sides", x.cellTold(62, 1), 18);
        int[] beside = {61, 63, 54};
        for (int c : beside) DUE.is("(3) beside", x.cellTold(c, 1), 44);
    }

    private static void hollowsGrowByEachWater() {
        HollowShire x = new HollowShire();
        x.rain(50);
        for (int c = 0; c < 64; c++) x.ground(c, c == 1 ? 2 : c == 8 ? 3 : c == 10 ? 1 : 0, 10);
        x.pump(9);
        x.pumping(0, 50);
        x.run(1);
        // 6 went by in each of the four: salt 3, an old mine 0 (cut), gypsum 1, clay nothing.
        DUE.is("(4) salt", x.ground(1, 2, 0), 13);
        DUE.is("(4) mine", x.ground(8, 3, 0), 10);
        DUE.is("(4) gypsum", x.ground(10, 1, 0), 11);
        DUE.is("(4) clay", x.ground(17, 0, 0), 10);
        DUE.is("(4) clay that is pumped", x.ground(9, 0, 0), 10);
    }

    private static void hollowsGrowTo200() {
        HollowShire x = new HollowShire();
        x.rain(50);
        x.run(52);
        x.ground(0, 2, 195);
        x.pump(0);
        x.pumping(0, 50);
        x.run(1);
        // The roof bears 70 and 130 for its 2612 of water.
        DUE.is("(4) 200 at most", x.ground(0, 2, 0), 200);
    }

    private static void roofsBearByRockAndWater() {
        int[] bears = {120, 90, 70, 60};
        for (int rock = 0; rock < 4; rock++) {
            HollowShire x = new HollowShire();
            x.ground(20, rock, bears[rock]);
            x.ground(40, rock, bears[rock] + 1);
            x.run(1);
            DUE.is("(5) bears", x.cellTold(20, 2), -1);
            DUE.is("(5) above", x.cellTold(40, 2), 0);
            DUE.is("(5) hollow", x.cellTold(40, 3), bears[rock] + 1);
        }
        HollowShire wet = new HollowShire();
        wet.ground(20, 0, 121);
        wet.ground(40, 0, 122);
        wet.rain(20);
        wet.run(1);
        DUE.is("(5) a twentieth more", wet.cellTold(20, 2), -1);
        DUE.is("(5) no more", wet.cellTold(40, 2), 0);
        HollowShire damp = new HollowShire();
        damp.ground(20, 0, 121);
        damp.rain(19);
        damp.run(1);
        DUE.is("(5) cut", damp.cellTold(20, 2), 0);
        damp.ground(21, 0, 200);
        damp.run(1);
        DUE.is("(5) the month", damp.cellTold(21, 2), 1);
        DUE.is("(5) both fell", damp.count(4), 2);
    }

    private static void fallenCellsGrowNoMore() {
        HollowShire x = new HollowShire();
        x.ground(9, 2, 71);
        x.run(1);
        x.rain(50);
        x.pump(9);
        x.pumping(0, 50);
        x.run(5);
        DUE.is("fell: hollow stays", x.cellTold(9, 3), 71);
        DUE.is("fell: once", x.cellTold(9, 2), 0);
        DUE.is("fell: counted once", x.count(4), 1);
        DUE.is("fell: water goes on", x.cellTold(9, 1) > 24 ? 1 : 0, 1);
    }

    private static void housesGoWithTheirCell() {
        HollowShire x = new HollowShire();
        x.house(9, 100, 2);
        x.house(9, 10, 3);
        x.house(10, 5, 9);
        x.move(1);
        x.run(2);
        x.ground(9, 0, 200);
        x.run(1);
        DUE.is("harm", x.count(5), 2110);
        DUE.is("gone", x.houseTold(0, 3), 2);
        DUE.is("gone, moved", x.houseTold(1, 3), 2);
        DUE.is("stands", x.houseTold(2, 3), -1);
        x.run(3);
        DUE.is("harm once", x.count(5), 2110);
    }
}
