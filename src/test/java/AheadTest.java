/** Promises 27 to 34: looking at cells and houses, beside, plans, images, counts. */
public final class AheadTest {
    private static final Due DUE = new Due();

    public static void main(String[] args) {
        promise27CellTold();
        promise28HouseTold();
        promise29Beside();
        promise29BesideChangesNothing();
        promise30PlanRefuses();
        promise30Plan();
        promise30PlanOfMovedAndGone();
        promise31Planned();
        promise32Image();
        promise33Back();
        promise33BackKeepsWhatIsNoGround();
        promise34Count();
        DUE.end("AheadTest");
    }

    private static void promise27CellTold() {
        HollowShire x = new HollowShire();
        x.ground(9, 3, 61);
        x.ground(10, 1, 80);
        x.house(10, 1, 4);
        x.house(10, 1, 5);
        x.house(10, 1, 6);
        x.move(1);
        x.rain(3);
        x.run(1);
        long[] fallen = {3, 3, 0, 61, 0};
        long[] stands = {1, 3, -1, -3, 10};
        for (int w = 0; w < 5; w++) DUE.is("27 fell, what " + w, x.cellTold(9, w), fallen[w]);
        for (int w = 0; w < 5; w++) DUE.is("27 stands, what " + w, x.cellTold(10, w), stands[w]);
        DUE.is("27 no cell", x.cellTold(64, 5), -5);
        DUE.is("27 no cell below", x.cellTold(-1, 0), -5);
        DUE.is("27 what 5", x.cellTold(9, 5), -7);
        DUE.is("27 what -1", x.cellTold(9, -1), -7);
        x.ground(10, 1, 200);
        x.run(1);
        DUE.is("27 nobody is there", x.cellTold(10, 4), 0);
    }

    private static void promise28HouseTold() {
        HollowShire x = new HollowShire();
        DUE.is("28 none", x.houseTold(0, 9), -5);
        x.house(9, 77, 4);
        x.house(10, 88, 0);
        x.move(1);
        x.ground(10, 0, 200);
        x.run(1);
        long[] stands = {9, 77, 4, -1, 0};
        long[] went = {10, 88, 0, 0, 1};
        for (int w = 0; w < 5; w++) DUE.is("28 stands, what " + w, x.houseTold(0, w), stands[w]);
        for (int w = 0; w < 5; w++) DUE.is("28 went, what " + w, x.houseTold(1, w), went[w]);
        DUE.is("28 below", x.houseTold(-1, 0), -5);
        DUE.is("28 behind", x.houseTold(2, 0), -5);
        DUE.is("28 what 5", x.houseTold(0, 5), -7);
        DUE.is("28 what -1", x.houseTold(0, -1), -7);
    }

    /** Salt with a hollow of 60 in cell 9, a house and a pump there, that doesn't pump yet. */
    private static HollowShire salty() {
        HollowShire x = new HollowShire();
        x.ground(9, 2, 60);
        x.house(9, 300, 2);
        x.pump(9);
        return x;
    }

    private static void promise29Beside() {
        HollowShire x = salty();
        x.ground(20, 0, 200);
        x.house(20, 5, 1);
        x.rain(4);
        DUE.is("29 0 months", x.beside(0, -1, 0, 0), Due.NO);
        DUE.is("29 61 months", x.beside(61, -1, 0, 0), Due.NO);
        DUE.is("29 pump 1", x.beside(1, 1, 0, 0), Due.NO);
        DUE.is("29 pump -2", x.beside(1, -2, 0, 0), Due.NO);
        DUE.is("29 pumped 51", x.beside(1, 0, 51, 0), Due.NO);
        DUE.is("29 pumped -1", x.beside(1, 0, -1, 0), Due.NO);
        DUE.is("29 pumped 51 of none", x.beside(1, -1, 51, 0), Due.NO);
        DUE.is("29 what 3", x.beside(1, 0, 0, 3), Due.NO);
        DUE.is("29 what -1", x.beside(1, 0, 0, -1), Due.NO);
        // 4 are pumped each month: the hollow is 2 more a month, 70 after 5, above it in the month behind.
        DUE.is("29 cells, 5 months", x.beside(5, 0, 4, 0), 1);
        DUE.is("29 cells, 6 months", x.beside(6, 0, 4, 0), 2);
        DUE.is("29 harm, 5 months", x.beside(5, 0, 4, 1), 1005);
        DUE.is("29 harm, 6 months", x.beside(6, 0, 4, 1), 3305);
        DUE.is("29 the month", x.beside(6, 0, 4, 2), 6);
        DUE.is("29 as all is", x.beside(60, -1, 50, 0), 1);
        x.pumping(0, 4);
        DUE.is("29 as all is then", x.beside(6, -1, 0, 0), 2);
        DUE.is("29 not pumped", x.beside(60, 0, 0, 0), 1);
        x.run(1);
        DUE.is("29 what comes", x.beside(5, -1, 0, 0), 1);
        DUE.is("29 harm that comes", x.beside(5, -1, 0, 1), 2300);
        DUE.is("29 the month then", x.beside(5, -1, 0, 2), 6);
        for (int i = 0; i < 19; i++) x.run(60);
        x.run(58);
        DUE.is("29 the last month", x.beside(1, -1, 0, 2), 1200);
        DUE.is("29 beyond", x.beside(2, -1, 0, 2), Due.NO);
    }

    private static void promise29BesideChangesNothing() {
        HollowShire x = salty();
        x.rain(4);
        x.beside(60, 0, 50, 0);
        DUE.is("29 month", x.count(0), 0);
        DUE.is("29 harm", x.count(5), 0);
        DUE.is("29 water", x.cellTold(9, 1), 0);
        DUE.is("29 pump", x.pumping(0, 0), 0);
        DUE.is("29 gone", x.houseTold(0, 3), -1);
        DUE.is("29 chances", x.often(2, 1), 1);
        DUE.is("29 hollow", x.ground(9, 2, 60), 60);
    }

    private static void promise30PlanRefuses() {
        HollowShire x = salty();
        Due.fill(x, 0, 2, 0);
        DUE.is("30 no sheet", x.plan(4, 0, 1), Due.NO);
        DUE.is("30 no sheet below", x.plan(-1, 0, 1), Due.NO);
        DUE.is("30 missing", x.plan(1, 0, 1), Due.NO);
        DUE.is("30 room -1", x.plan(0, -1, 1), Due.NO);
        DUE.is("30 room 1000", x.plan(0, 1000, 1), Due.NO);
        DUE.is("30 0 months", x.plan(0, 0, 0), Due.NO);
        DUE.is("30 61 months", x.plan(0, 0, 61), Due.NO);
        HollowShire none = new HollowShire();
        none.sheet(0, 2, 0);
        DUE.is("30 there are no houses", none.plan(0, 0, 1), 0);
        Due.fill(x, 1, 2, 1, 0);
        DUE.is("30 the first is no house", x.plan(1, 0, 1), Due.NO);
        x.sheet(1, 2, 9);
        DUE.is("30 nine", x.plan(1, 0, 1), Due.NO);
        x.sheet(1, 2, 8);
        DUE.is("30 eight", x.plan(1, 999, 60), 0);
        x.cell(1, 7, 1);
        DUE.is("30 no house", x.plan(1, 0, 1), Due.NO);
        x.cell(1, 7, -1);
        DUE.is("30 no house below", x.plan(1, 0, 1), Due.NO);
        for (int i = 0; i < 20; i++) x.run(i < 19 ? 60 : 59);
        DUE.is("30 the last month", x.plan(0, 0, 1), 0);
        DUE.is("30 beyond", x.plan(0, 0, 2), Due.NO);
    }

    private static HollowShire fallingRow() {
        HollowShire x = new HollowShire();
        for (int h = 0; h < 4; h++) {
            x.house(20 + h, 10 + h, new int[] {5, 3, 4, 7}[h]);
            x.ground(20 + h, 0, h < 3 ? 200 : 0);
        }
        return x;
    }

    private static void promise30Plan() {
        HollowShire x = fallingRow();
        Due.fill(x, 0, 2, 0, 1, 2, 3);
        DUE.is("30 no room", x.plan(0, 0, 1), 12033);
        DUE.is("30 none", x.planned(), 0);
        DUE.is("30 room for five", x.plan(0, 6, 1), 7033);
        DUE.is("30 the first", x.planned(), 1);
        DUE.is("30 room for seven", x.plan(0, 7, 1), 5033);
        DUE.is("30 three and four", x.planned(), 6);
        DUE.is("30 room for all", x.plan(0, 999, 60), 33);
        DUE.is("30 not the one that stands", x.planned(), 7);
        Due.fill(x, 0, 0, 1, 1, 3, 0, 0);
        DUE.is("30 each house once", x.plan(0, 8, 1), 4033);
        DUE.is("30 the least bits", x.planned(), 1 | 8);
        x.sheet(0, 2, 0);
        DUE.is("30 of none", x.plan(0, 9, 1), 12033);
        DUE.is("30 nothing is moved", x.houseTold(1, 4), 0);
        DUE.is("30 nothing is gone", x.houseTold(1, 3), -1);
        DUE.is("30 month", x.count(0), 0);
        DUE.is("30 harm", x.count(5), 0);
    }

    private static void promise30PlanOfMovedAndGone() {
        HollowShire x = fallingRow();
        x.ground(21, 0, 0);
        x.ground(22, 0, 0);
        x.move(1);
        x.run(1);
        x.ground(21, 0, 200);
        x.ground(22, 0, 200);
        Due.fill(x, 0, 1, 0, 1, 2);
        // House 0 went already, house 1 is moved and needs no room.
        DUE.is("30 harm in these months", x.plan(0, 3, 1), 4023);
        DUE.is("30 none by three", x.planned(), 0);
        DUE.is("30 by four", x.plan(0, 4, 1), 23);
        DUE.is("30 the one", x.planned(), 4);
        DUE.is("30 room for all, one is gone", x.plan(0, 999, 1), 23);
        DUE.is("30 the one that goes", x.planned(), 4);
    }

    private static void promise31Planned() {
        HollowShire x = fallingRow();
        DUE.is("31 at first", x.planned(), 0);
        Due.fill(x, 0, 2, 3, 0);
        x.plan(0, 9, 1);
        DUE.is("31 bits of places", x.planned(), 2);
        x.plan(0, 1000, 1);
        DUE.is("31 a refused plan changes nothing", x.planned(), 2);
        x.image();
        x.run(1);
        x.back();
        DUE.is("31 it stays", x.planned(), 2);
    }

    private static void promise32Image() {
        HollowShire x = new HollowShire();
        DUE.is("32 month 0", x.image(), 0);
        x.run(5);
        DUE.is("32 month 5", x.image(), 5);
        x.run(5);
        DUE.is("32 the last one", x.back(), 5);
    }

    private static void promise33Back() {
        HollowShire x = new HollowShire();
        DUE.is("33 there is none", x.back(), -3);
        x.ground(9, 1, 30);
        x.ground(10, 2, 60);
        x.rain(7);
        x.house(10, 100, 3);
        x.pump(10);
        x.pumping(0, 5);
        x.run(2);
        x.image();
        int water = x.cellTold(10, 1);
        x.ground(9, 3, 77);
        x.rain(9);
        x.pumping(0, 50);
        x.pump(20);
        x.pumping(1, 44);
        x.house(30, 5, 5);
        x.house(31, 6, 6);
        x.move(1);
        x.move(0);
        x.ground(31, 0, 200);
        x.ground(10, 2, 200);
        x.run(30);
        DUE.is("33 gone ahead of it", x.houseTold(2, 3), 2);
        DUE.is("33 back", x.back(), 2);
        DUE.is("33 month", x.count(0), 2);
        DUE.is("33 rain", x.count(11), 7);
        DUE.is("33 harm", x.count(5), 0);
        DUE.is("33 fallen", x.count(4), 0);
        DUE.is("33 water", x.cellTold(10, 1), water);
        DUE.is("33 rock", x.cellTold(9, 0), 1);
        DUE.is("33 hollow", x.ground(9, 1, 30), 30);
        DUE.is("33 pumping", x.pumping(0, 5), 5);
        DUE.is("33 a pump that came since", x.pumping(1, 3), 0);
        DUE.is("33 houses stay", x.count(2), 3);
        DUE.is("33 not moved", x.houseTold(0, 4), 0);
        DUE.is("33 not gone", x.houseTold(0, 3), -1);
        DUE.is("33 came since: not moved", x.houseTold(1, 4), 0);
        DUE.is("33 came since: not gone", x.houseTold(2, 3), -1);
        DUE.is("33 came since: its cell", x.houseTold(2, 0), 31);
        x.run(1);
        DUE.is("33 the image stays", x.back(), 2);
    }

    private static void promise33BackKeepsWhatIsNoGround() {
        HollowShire x = new HollowShire();
        x.image();
        x.run(3);
        x.sign(1, 9, 30);
        x.lost(9, 10);
        x.warn(9);
        Due.text(x, "build 1;move 1;owe 1;");
        x.force(1);
        Due.feed(x, "abc");
        Due.fill(x, 0, 2, 9);
        x.back();
        long[] counts = {0, 1, 0, 0, 0, 0, 1, 2, 1, 3, 1, 0};
        for (int w = 0; w < 12; w++) DUE.is("33 count(" + w + ")", x.count(w), counts[w]);
        DUE.is("33 told in a month to come", x.span(9, 0, 0), 0);
        DUE.is("33 lost in a month to come", x.fit(0, 0), 0);
        DUE.is("33 told of it all the same", x.signTold(0, 2, 0), 3);
        DUE.is("33 known 3 is to come", x.signTold(0, 2, 3), -2);
        x.run(3);
        DUE.is("33 told then", x.span(9, 3, 0), 60);
        DUE.is("33 the fit then", x.fit(0, 3), 1);
    }

    private static void promise34Count() {
        HollowShire x = new HollowShire();
        x.run(1);
        for (int i = 0; i < 2; i++) x.sign(0, 0, 0);
        for (int i = 0; i < 3; i++) x.house(40, 100, 1);
        for (int i = 0; i < 4; i++) x.pump(0);
        for (int c = 40; c < 45; c++) x.ground(c, 0, 200);
        for (int i = 0; i < 6; i++) x.warn(0);
        x.run(9);
        for (int i = 1; i < 3; i++) Due.text(x, "build 1;move 1;owe 1;");
        x.force(2);
        Due.feed(x, "123456789");
        for (int i = 0; i < 8; i++) x.lost(0, 1);
        x.rain(11);
        long[] counts = {10, 2, 3, 4, 5, 3300, 6, 3, 2, 9, 8, 11};
        for (int w = 0; w < 12; w++) DUE.is("34 count(" + w + ")", x.count(w), counts[w]);
        DUE.is("34 what 12", x.count(12), -2);
        DUE.is("34 what -1", x.count(-1), -2);
    }
}
