/** Promises 1 to 4 and 13: a new object, house, well, wind, cell. */
public final class CityTest {
    public static void main(String[] args) {
        newObjects();
        houses();
        builtAnewOnWetAshes();
        wells();
        winds();
        cells();
        Due.end("CityTest");
    }

    private static void newObjects() {
        int[][] sides = {{0, 0, 1}, {7, 7, 64}, {8, 8, 1}, {-1, 2, 24}, {3, -8, 4}, {9, 10, 6},
            {Integer.MIN_VALUE, Integer.MAX_VALUE, 8}};
        for (int[] s : sides) {
            FireWards x = new FireWards(s[0], s[1]);
            Due.is("last cell's state", x.cell(s[2] - 1, 0), FireWards.NONE);
            Due.none("behind the last cell", () -> x.cell(s[2], 0));
            Due.none("cell -1", () -> x.cell(-1, 0));
            for (int what = 0; what <= 8; what++) {
                Due.is("count " + what, x.count(what), 0);
            }
            Due.is("law in force", x.count(9), FireWards.NONE);
            Due.is("fault", x.fault(), FireWards.NONE);
        }
        // W and H are not taken for one another: 4 wide and 2 high, cell 4 is below cell 0.
        FireWards x = new FireWards(3, 1);
        x.house(0, 9, 0);
        x.house(3, 9, 0);
        x.house(4, 9, 0);
        x.light(0);
        x.hours(1);
        Due.is("below", x.cell(4, 4), 1);
        Due.is("at the row's other end", x.cell(3, 4), 0);
    }

    private static void houses() {
        FireWards x = new FireWards(1, 1);
        Due.no("wood 0", x.house(0, 0, 0));
        Due.no("wood 10", x.house(0, 10, 0));
        Due.no("wood below 0", x.house(0, Integer.MIN_VALUE, 0));
        Due.no("ward -1", x.house(0, 1, -1));
        Due.no("ward 8", x.house(0, 1, 8));
        Due.is("nothing was built", x.cell(0, 0), FireWards.NONE);
        Due.yes("wood 1, ward 7", x.house(0, 1, 7));
        Due.yes("wood 9, ward 0", x.house(1, 9, 0));
        Due.no("one stands there", x.house(0, 3, 3));
        Due.is("wood stays", x.cell(0, 1), 1);
        x.well(2, true);
        Due.no("on a well", x.house(2, 3, 3));
        x.well(2, false);
        Due.yes("the well is gone", x.house(2, 3, 3));
        Due.none("no such cell", () -> x.house(4, 3, 3));
        Due.none("no such cell, numbers wrong too", () -> x.house(-1, 0, 9));
        x.light(0);
        Due.no("one burns there", x.house(0, 3, 3));
        x.hours(1);
        Due.is("ashes", x.cell(0, 0), 2);
        Due.no("ashes, a number wrong", x.house(0, 0, 3));
        Due.yes("on ashes", x.house(0, 4, 3));
        int[] due = {0, 4, 3, 4, 0, 0, FireWards.NONE, 0};
        for (int what = 0; what < 8; what++) {
            Due.is("built anew, " + what, x.cell(0, what), due[what]);
        }
        x.company(0, 9, 0);
        x.pull(0, 2);
        x.hours(1);
        Due.is("pulled down", x.cell(2, 0), 3);
        Due.yes("where one was pulled down", x.house(2, 2, 2));
        Due.is("built anew", x.cell(2, 3), 2);
    }

    private static void builtAnewOnWetAshes() {
        // Cell 1 warms up to 5 and burns, is wetted a little, and is ashes in the end.
        FireWards x = new FireWards(2, 0);
        x.house(0, 9, 0);
        x.house(1, 1, 1);
        x.company(1, 1, 2);
        x.light(0);
        x.hours(6);
        Due.is("ashes", x.cell(1, 0), 2);
        Due.is("its warmth stays", x.cell(1, 4), 5);
        Due.is("its wet stays", x.cell(1, 5), 1);
        Due.is("its wood stays", x.cell(1, 1), 1);
        x.house(1, 2, 3);
        Due.is("warmth of the new one", x.cell(1, 4), 0);
        Due.is("wet of the new one", x.cell(1, 5), 0);
    }

    private static void wells() {
        FireWards x = new FireWards(1, 0);
        Due.no("there is none", x.well(0, false));
        Due.yes("a well", x.well(0, true));
        Due.is("is there", x.cell(0, 7), 1);
        Due.no("there is one", x.well(0, true));
        Due.yes("none any more", x.well(0, false));
        Due.is("is not there", x.cell(0, 7), 0);
        x.house(1, 1, 0);
        Due.no("a house is there", x.well(1, true));
        Due.no("a house is there, no well either", x.well(1, false));
        x.light(1);
        x.hours(1);
        Due.no("a house was there", x.well(1, true));
        Due.none("no such cell", () -> x.well(2, true));
        Due.none("no such cell", () -> x.well(-1, false));
    }

    private static void winds() {
        FireWards x = new FireWards(2, 2);
        Due.is("wind", x.wind(4), 0);
        Due.is("wind", x.wind(1), 4);
        Due.illegal("wind 5", () -> x.wind(5));
        Due.illegal("wind -1", () -> x.wind(-1));
        Due.is("wind stays", x.wind(0), 1);
        // The middle burns; the wind doubles the warmth on the side that it blows towards.
        int[] towards = {-1, 1, 5, 7, 3};
        for (int w = 0; w <= 4; w++) {
            FireWards y = new FireWards(2, 2);
            for (int cell = 0; cell < 9; cell++) {
                y.house(cell, 9, 0);
            }
            y.wind(w);
            y.light(4);
            y.hours(1);
            for (int cell = 1; cell < 9; cell += 2) {
                if (cell != 4) {
                    Due.is("wind " + w + " cell " + cell, y.cell(cell, 4), cell == towards[w] ? 3 : 1);
                }
            }
            Due.is("not beside", y.cell(0, 4), 0);
        }
    }

    private static void cells() {
        FireWards x = new FireWards(2, 0);
        int[] ground = {FireWards.NONE, 0, 0, 0, 0, 0, FireWards.NONE, 0};
        for (int what = 0; what < 8; what++) {
            Due.is("ground " + what, x.cell(0, what), ground[what]);
        }
        x.house(1, 5, 6);
        x.company(6, 3, 0);
        x.light(1);
        x.hours(1);
        int[] burning = {1, 5, 6, 4, 0, 3, 0, 0};
        for (int what = 0; what < 8; what++) {
            Due.is("burning " + what, x.cell(1, what), burning[what]);
        }
        Due.none("what 8", () -> x.cell(0, 8));
        Due.none("what -1", () -> x.cell(0, -1));
        Due.none("cell 3", () -> x.cell(3, 0));
        Due.none("least cell", () -> x.cell(Integer.MIN_VALUE, 0));
    }
}
