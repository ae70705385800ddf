/**
 * The boundary cases of the CITY and the COMPANIES, a method for each sentence that names one:
 * "Terms" part 1 and promises 1 to 5, 13, 14, 17. What is unchanged behind a refused call stands in
 * RefusedTest.
 */
public final class BoundsCityTest {
    private static final int MIN = Integer.MIN_VALUE;
    private static final int MAX = Integer.MAX_VALUE;

    public static void main(String[] args) {
        sides();
        lowestBits();
        newCity();
        placesOfCells();
        beside();
        howFar();
        ground();
        woods();
        wards();
        firstFuel();
        states();
        windRoses();
        winds();
        noSuchWind();
        companyNumbers();
        men();
        companyWards();
        anyCell();
        firstGoal();
        builtOnGround();
        standsAlready();
        wellIsThere();
        notAsTold();
        noSuchCell();
        wellDug();
        wellRefused();
        eightCompanies();
        companyOnNoCell();
        cellWhats();
        groundIsNought();
        anotherCellWhat();
        ofWhats();
        noSuchOf();
        countWhats();
        anotherCount();
        lastCall();
        Due.end("BoundsCityTest");
    }

    private static int size(FireWards x) {
        int cells = 0;
        try {
            while (cells < 100) {
                x.cell(cells, 0);
                cells++;
            }
        } catch (java.util.NoSuchElementException e) {
            return cells;
        }
        return cells;
    }

    private static void sides() {
        Due.says("W by H CELLS (1 to 8 each)");
        for (int w = 1; w <= 8; w++) {
            for (int h = 1; h <= 8; h++) {
                Due.is(w + " by " + h, size(new FireWards(w - 1, h - 1)), w * h);
            }
        }
    }

    private static void lowestBits() {
        Due.says("W is 1 and the lowest three bits of wide, H 1 and those of high.");
        int[] told = {0, 7, 8, 15, 16, -1, -7, -8, -9, 256, MIN, MIN + 3, MAX, MAX - 7};
        int[] due = {1, 8, 1, 8, 1, 8, 2, 1, 8, 1, 1, 4, 8, 1};
        for (int i = 0; i < told.length; i++) {
            Due.is("wide " + told[i], size(new FireWards(told[i], 0)), due[i]);
            Due.is("high " + told[i], size(new FireWards(0, told[i])), due[i]);
            // With two rows the cell below the first is as far on as the city is wide.
            Due.is("width of " + told[i], below(new FireWards(told[i], 1), due[i]), 1);
            Due.is("height of " + told[i], below(new FireWards(1, told[i]), 2), due[i] > 1 ? 1 : 0);
        }
    }

    /** The warmth after an hour of the house in the cell below the first, which burns. */
    private static int below(FireWards x, int width) {
        if (size(x) <= width) {
            return 0;
        }
        x.house(0, 9, 0);
        x.house(width, 9, 0);
        x.light(0);
        x.hours(1);
        return x.cell(width, 4);
    }

    private static void newCity() {
        Due.says("A CITY without HOUSES, hour 0");
        FireWards x = new FireWards(2, 1);
        int[] ground = {FireWards.NONE, 0, 0, 0, 0, 0, FireWards.NONE, 0};
        for (int cell = 0; cell < 6; cell++) {
            for (int what = 0; what < 8; what++) {
                Due.is("cell " + cell + " " + what, x.cell(cell, what), ground[what]);
            }
        }
        for (int what = 0; what <= 8; what++) {
            Due.is("count " + what, x.count(what), 0);
        }
        Due.is("no law in force", x.count(9), FireWards.NONE);
        Due.is("no wind", x.wind(0), 0);
        Due.is("no fault", x.fault(), FireWards.NONE);
        Due.none("nothing is kept", () -> x.breaker(0));
        Due.none("no company", () -> x.of(0, 0));
        Due.is("no hour", x.hours(0), 0);
    }

    private static final int[][] SIDES = {{4, 3}, {3, 4}, {8, 1}, {1, 8}, {2, 2}};

    private static void placesOfCells() {
        Due.says("CELL k is at x = k MOD W, y = k / W.");
        for (int[] s : SIDES) {
            int w = s[0];
            for (int a = 0; a < w * s[1]; a++) {
                for (int b = 0; b < w * s[1]; b++) {
                    int far = Math.abs(a % w - b % w) + Math.abs(a / w - b / w);
                    Due.yes(w + " wide, " + a + " to " + b, isFar(s, a, b, "call far=" + far + ";"));
                }
            }
        }
    }

    private static boolean isFar(int[] s, int a, int b, String law) {
        FireWards x = new FireWards(s[0] - 1, s[1] - 1);
        x.house(b, 9, 0);
        x.company(1, 1, a);
        Due.law(x, law, 0);
        return x.light(b) == 1;
    }

    private static void beside() {
        Due.says("BESIDE a CELL are those above, below, left and right of it.");
        // 4 by 3. Not beside: corner to corner, and the end of one row to the begin of the next.
        int[][] near = {{1, 4}, {0, 2, 5}, {1, 3, 6}, {2, 7}, {0, 5, 8}, {1, 4, 6, 9}, {2, 5, 7, 10},
            {3, 6, 11}, {4, 9}, {5, 8, 10}, {6, 9, 11}, {7, 10}};
        for (int burning = 0; burning < 12; burning++) {
            FireWards x = new FireWards(3, 2);
            for (int cell = 0; cell < 12; cell++) {
                x.house(cell, 9, 0);
            }
            x.light(burning);
            x.hours(1);
            for (int cell = 0; cell < 12; cell++) {
                int warm = 0;
                for (int other : near[burning]) {
                    warm += other == cell ? 1 : 0;
                }
                Due.is(burning + " warms " + cell, x.cell(cell, 4), warm);
            }
        }
    }

    private static void howFar() {
        Due.says("HOW FAR two CELLS are: how far their x are apart, and their y, together.");
        int[] eight = {8, 8};
        Due.yes("itself", isFar(eight, 27, 27, "call far=0;"));
        Due.yes("the corners", isFar(eight, 0, 63, "call far=14;"));
        Due.yes("the corners, back", isFar(eight, 63, 0, "call far=14;"));
        Due.yes("the other corners", isFar(eight, 7, 56, "call far=14;"));
        Due.yes("the other corners, back", isFar(eight, 56, 7, "call far=14;"));
        Due.yes("end of a row to the begin of the next", isFar(eight, 7, 8, "call far=8;"));
        Due.yes("corner to corner", isFar(eight, 0, 9, "call far=2;"));
        Due.no("no more than that", isFar(eight, 0, 9, "call 2<far;"));
        Due.no("no less than that", isFar(eight, 0, 9, "call far<2;"));
    }

    private static void ground() {
        Due.says("A CELL is GROUND (at first)");
        FireWards x = new FireWards(7, 7);
        for (int cell = 0; cell < 64; cell++) {
            Due.is("cell " + cell, x.cell(cell, 0), FireWards.NONE);
        }
        Due.says("GROUND may have a WELL.");
        for (int cell = 0; cell < 64; cell++) {
            Due.yes("cell " + cell, x.well(cell, true));
            Due.is("is there", x.cell(cell, 7), 1);
            Due.is("still ground", x.cell(cell, 0), FireWards.NONE);
        }
    }

    private static void woods() {
        Due.says("WOOD 1 to 9");
        for (int wood : new int[] {MIN, -1, 0, 10, 11, 17, 257, MAX}) {
            FireWards x = new FireWards(0, 0);
            Due.no("wood " + wood, x.house(0, wood, 0));
            Due.is("no house", x.cell(0, 0), FireWards.NONE);
        }
        for (int wood = 1; wood <= 9; wood++) {
            FireWards x = new FireWards(0, 0);
            Due.yes("wood " + wood, x.house(0, wood, 0));
            Due.is("wood " + wood, x.cell(0, 1), wood);
        }
    }

    private static void wards() {
        Due.says("a WARD 0 to 7");
        for (int ward : new int[] {MIN, -8, -1, 8, 9, 16, MAX}) {
            FireWards x = new FireWards(0, 0);
            Due.no("ward " + ward, x.house(0, 1, ward));
            Due.is("no house", x.cell(0, 0), FireWards.NONE);
        }
        for (int ward = 0; ward <= 7; ward++) {
            FireWards x = new FireWards(0, 0);
            Due.yes("ward " + ward, x.house(0, 1, ward));
            Due.is("ward " + ward, x.cell(0, 2), ward);
        }
    }

    private static void firstFuel() {
        Due.says("FUEL (at first its WOOD), WARMTH, WET (0 at first)");
        for (int wood = 1; wood <= 9; wood++) {
            FireWards x = new FireWards(0, 0);
            x.house(0, wood, 7);
            Due.is("fuel", x.cell(0, 3), wood);
            Due.is("warmth", x.cell(0, 4), 0);
            Due.is("wet", x.cell(0, 5), 0);
            Due.is("whole", x.cell(0, 0), 0);
            Due.is("no roof", x.cell(0, 6), FireWards.NONE);
        }
        // A new house on wet, warm ashes is as new as any other.
        FireWards y = new FireWards(2, 0);
        y.house(0, 9, 0);
        y.house(1, 2, 0);
        y.company(7, 1, 2);
        y.light(0);
        y.hours(5);
        y.send(0, 1);
        y.hours(2);
        Due.is("ashes", y.cell(1, 0), 2);
        Due.yes("anew", y.house(1, 7, 6));
        Due.is("fuel", y.cell(1, 3), 7);
        Due.is("warmth", y.cell(1, 4), 0);
        Due.is("wet", y.cell(1, 5), 0);
    }

    private static void states() {
        Due.says("a STATE: 0 WHOLE, 1 BURNING, 2 ASHES, 3 PULLED DOWN");
        FireWards x = new FireWards(2, 0);
        x.house(0, 1, 0);
        x.house(2, 1, 0);
        x.company(1, 1, 1);
        Due.is("whole", x.cell(0, 0), 0);
        x.light(0);
        Due.is("burning", x.cell(0, 0), 1);
        x.pull(0, 2);
        x.hours(1);
        Due.is("ashes", x.cell(0, 0), 2);
        Due.is("pulled down", x.cell(2, 0), 3);
    }

    private static void windRoses() {
        Due.says("WIND: 0 none, or it blows towards 1 lesser y, 2 greater x, 3 greater y, 4 lesser x.");
        int[] beside = {1, 5, 7, 3};
        for (int wind = 0; wind <= 4; wind++) {
            FireWards x = new FireWards(2, 2);
            for (int cell = 0; cell < 9; cell++) {
                x.house(cell, 9, 0);
            }
            x.wind(wind);
            x.light(4);
            x.hours(1);
            for (int side = 0; side < 4; side++) {
                Due.is("wind " + wind + ", cell " + beside[side], x.cell(beside[side], 4), side + 1 == wind ? 3 : 1);
            }
        }
    }

    private static void winds() {
        Due.says("WIND: what it was.");
        FireWards x = new FireWards(0, 0);
        Due.is("at first none", x.wind(0), 0);
        int old = 0;
        for (int wind : new int[] {4, 4, 0, 1, 3, 2, 1, 0}) {
            Due.is("wind " + wind, x.wind(wind), old);
            old = wind;
        }
    }

    private static void noSuchWind() {
        Due.says("IllegalArgumentException: it is not 0 to 4.");
        FireWards x = new FireWards(0, 0);
        x.wind(3);
        for (int wind : new int[] {MIN, -4, -1, 5, 6, 8, 256, MAX}) {
            Due.illegal("wind " + wind, () -> x.wind(wind));
        }
        Due.is("it stays", x.wind(0), 3);
        for (int wind = 1; wind <= 4; wind++) {
            Due.is("wind " + wind, x.wind(wind), wind - 1);
        }
    }

    private static void companyNumbers() {
        Due.says("COMPANIES 0 to 7");
        FireWards x = new FireWards(0, 0);
        for (int i = 0; i < 8; i++) {
            int next = i;
            Due.none("not yet " + i, () -> x.of(next, 0));
            Due.is("company", x.company(i, i + 1, 0), i);
            Due.is("its ward", x.of(i, 0), i);
            Due.is("count", x.count(5), i + 1);
        }
        Due.is("a ninth", x.company(0, 1, 0), FireWards.NONE);
        Due.is("count", x.count(5), 8);
        Due.none("no company 8", () -> x.of(8, 0));
    }

    private static void men() {
        Due.says("MEN (1 to 9)");
        for (int men : new int[] {MIN, -1, 0, 10, 11, 265, MAX}) {
            FireWards x = new FireWards(0, 0);
            Due.is("men " + men, x.company(0, men, 0), FireWards.NONE);
            Due.is("none", x.count(5), 0);
        }
        for (int men = 1; men <= 9; men++) {
            FireWards x = new FireWards(0, 0);
            Due.is("men " + men, x.company(0, men, 0), 0);
            Due.is("men " + men, x.of(0, 1), men);
        }
    }

    private static void companyWards() {
        Due.says("A COMPANY: its number. NONE: there are 8, or a number is not as told.");
        for (int ward : new int[] {MIN, -1, 8, 15, MAX}) {
            FireWards x = new FireWards(0, 0);
            Due.is("ward " + ward, x.company(ward, 1, 0), FireWards.NONE);
            Due.is("none", x.count(5), 0);
            Due.is("the next has number 0", x.company(7, 1, 0), 0);
        }
        for (int ward = 0; ward <= 7; ward++) {
            FireWards x = new FireWards(0, 0);
            Due.is("ward " + ward, x.company(ward, 1, 0), 0);
            Due.is("ward " + ward, x.of(0, 0), ward);
        }
    }

    private static void anyCell() {
        Due.says("a CELL (any)");
        FireWards x = new FireWards(5, 0);
        x.house(0, 1, 0);
        x.house(2, 1, 0);
        x.company(0, 1, 1);
        x.light(0);
        x.pull(0, 2);
        x.hours(1);
        x.house(3, 9, 0);
        x.house(4, 9, 0);
        x.light(4);
        x.well(5, true);
        int[] states = {2, FireWards.NONE, 3, 0, 1, FireWards.NONE};
        for (int cell = 0; cell < 6; cell++) {
            Due.is("state", x.cell(cell, 0), states[cell]);
            Due.is("on state " + states[cell], x.company(0, 1, cell), cell + 1);
            Due.is("is there", x.of(cell + 1, 2), cell);
        }
    }

    private static void firstGoal() {
        Due.says("a GOAL: none, a fire (a HOUSE to be put out), or a HOUSE to be pulled down; PAID (0 at first).");
        FireWards x = new FireWards(2, 0);
        x.house(0, 9, 3);
        x.house(2, 9, 3);
        x.light(0);
        Due.is("company", x.company(3, 1, 1), 0);
        Due.is("no goal, though its ward burns", x.of(0, 3), FireWards.NONE);
        Due.is("nothing to pull down", x.of(0, 4), 0);
        Due.is("paid", x.of(0, 5), 0);
        Due.is("quarrels", x.of(0, 6), 0);
        Due.is("put out", x.of(0, 7), 0);
        x.send(0, 0);
        Due.is("a fire", x.of(0, 3), 0);
        Due.is("nothing to pull down", x.of(0, 4), 0);
        x.pull(0, 2);
        Due.is("a house", x.of(0, 3), 2);
        Due.is("to pull down", x.of(0, 4), 1);
    }

    private static void builtOnGround() {
        Due.says("A HOUSE is built on GROUND without a WELL, or anew on one that is ASHES or PULLED DOWN: true.");
        FireWards x = new FireWards(2, 0);
        Due.yes("on ground", x.house(0, 1, 0));
        Due.yes("on ground", x.house(2, 1, 0));
        x.company(1, 9, 1);
        x.light(0);
        x.pull(0, 2);
        x.hours(1);
        Due.yes("on ashes", x.house(0, 9, 7));
        Due.yes("where one was pulled down", x.house(2, 8, 6));
        int[][] due = {{0, 9, 7, 9, 0, 0, FireWards.NONE, 0}, {0, 8, 6, 8, 0, 0, FireWards.NONE, 0}};
        for (int what = 0; what < 8; what++) {
            Due.is("of 0, " + what, x.cell(0, what), due[0][what]);
            Due.is("of 2, " + what, x.cell(2, what), due[1][what]);
        }
        x.well(1, true);
        x.well(1, false);
        Due.yes("where a well was", x.house(1, 1, 1));
    }

    private static void standsAlready() {
        Due.says("False: there stands one, or a WELL is there, or a number is not as told.");
        FireWards x = new FireWards(1, 0);
        x.house(0, 3, 4);
        Due.no("whole", x.house(0, 3, 4));
        Due.no("whole", x.house(0, 9, 1));
        Due.is("its wood", x.cell(0, 1), 3);
        Due.is("its ward", x.cell(0, 2), 4);
        x.light(0);
        Due.no("burning", x.house(0, 9, 1));
        Due.is("its state", x.cell(0, 0), 1);
        Due.is("its wood", x.cell(0, 1), 3);
        // What is half pulled down or half burnt stands.
        FireWards y = new FireWards(1, 0);
        y.house(0, 3, 4);
        y.company(0, 2, 1);
        y.pull(0, 0);
        y.hours(1);
        Due.no("half pulled down", y.house(0, 3, 4));
        Due.is("its fuel", y.cell(0, 3), 1);
    }

    private static void wellIsThere() {
        Due.says("a WELL is there, or a number is not as told");
        FireWards x = new FireWards(0, 0);
        x.well(0, true);
        Due.no("on a well", x.house(0, 1, 1));
        Due.is("no house", x.cell(0, 0), FireWards.NONE);
        Due.is("the well stays", x.cell(0, 7), 1);
        x.well(0, false);
        Due.yes("no well any more", x.house(0, 1, 1));
    }

    private static void notAsTold() {
        Due.says("or a number is not as told. NoSuchElementException: no such CELL (as everywhere).");
        FireWards x = new FireWards(1, 1);
        int[][] wrong = {{0, 0}, {10, 0}, {1, -1}, {1, 8}, {0, 8}, {MIN, MIN}, {MAX, MAX}};
        for (int[] w : wrong) {
            Due.no("wood " + w[0] + " ward " + w[1], x.house(3, w[0], w[1]));
            Due.is("no house", x.cell(3, 0), FireWards.NONE);
        }
        Due.yes("the least", x.house(0, 1, 0));
        Due.yes("the most", x.house(3, 9, 7));
    }

    private static void noSuchCell() {
        Due.says("NoSuchElementException: no such CELL (as everywhere).");
        for (int[] s : SIDES) {
            FireWards x = new FireWards(s[0] - 1, s[1] - 1);
            int last = s[0] * s[1] - 1;
            x.company(0, 1, 0);
            for (int cell : new int[] {MIN, -64, -1, last + 1, last + 2, 64, 256, MAX}) {
                Due.none("house " + cell, () -> x.house(cell, 1, 0));
                Due.none("house " + cell + ", numbers wrong too", () -> x.house(cell, 0, 8));
                Due.none("well " + cell, () -> x.well(cell, true));
                Due.none("no well " + cell, () -> x.well(cell, false));
                Due.none("company " + cell, () -> x.company(0, 1, cell));
                Due.none("light " + cell, () -> x.light(cell));
                Due.none("send " + cell, () -> x.send(0, cell));
                Due.none("pull " + cell, () -> x.pull(0, cell));
                Due.none("cell " + cell, () -> x.cell(cell, 0));
                Due.none("breaks " + cell, () -> x.breaks(cell));
            }
            for (int cell : new int[] {0, last}) {
                Due.yes("house " + cell, x.well(cell, true) && x.well(cell, false) && x.house(cell, 1, 0));
                Due.is("company " + cell, x.company(0, 1, cell), cell == 0 ? 1 : 2);
                Due.is("breaks " + cell, x.breaks(cell), 0);
                Due.yes("pull " + cell, x.pull(1, cell));
                Due.is("cell " + cell, x.cell(cell, 0), 0);
            }
            Due.is("light", x.light(last), x.count(5));
            Due.yes("light", x.light(0) >= 0);
            Due.yes("send", x.send(0, 0));
        }
    }

    private static void wellDug() {
        Due.says("A WELL on GROUND, or none any more: true.");
        FireWards x = new FireWards(1, 0);
        Due.yes("dug", x.well(1, true));
        Due.is("there", x.cell(1, 7), 1);
        Due.is("not elsewhere", x.cell(0, 7), 0);
        Due.yes("none any more", x.well(1, false));
        Due.is("not there", x.cell(1, 7), 0);
        Due.yes("dug again", x.well(1, true));
    }

    private static void wellRefused() {
        Due.says("False: there is (was) a HOUSE, or it is so already.");
        FireWards x = new FireWards(3, 0);
        Due.no("none already", x.well(0, false));
        x.well(0, true);
        Due.no("one already", x.well(0, true));
        Due.is("it stays", x.cell(0, 7), 1);
        x.house(1, 1, 0);
        x.house(3, 1, 0);
        x.company(1, 1, 2);
        for (int round = 0; round < 3; round++) {
            // Whole, burning and being pulled down, ashes and pulled down.
            for (int cell = 1; cell <= 3; cell += 2) {
                Due.no("state " + x.cell(cell, 0), x.well(cell, true));
                Due.no("state " + x.cell(cell, 0), x.well(cell, false));
                Due.is("no well", x.cell(cell, 7), 0);
            }
            if (round == 0) {
                x.light(1);
                x.pull(0, 3);
            } else if (round == 1) {
                x.hours(1);
            }
        }
        Due.is("ashes", x.cell(1, 0), 2);
        Due.is("pulled down", x.cell(3, 0), 3);
    }

    private static void eightCompanies() {
        Due.says("NONE: there are 8, or a number is not as told.");
        FireWards x = new FireWards(0, 0);
        for (int i = 0; i < 7; i++) {
            x.company(i, 9, 0);
        }
        Due.is("a number is wrong", x.company(8, 9, 0), FireWards.NONE);
        Due.is("the eighth", x.company(7, 9, 0), 7);
        Due.is("the ninth", x.company(7, 9, 0), FireWards.NONE);
        Due.is("the ninth, a number wrong", x.company(7, 0, 0), FireWards.NONE);
        Due.is("eight", x.count(5), 8);
        Due.is("the last stays", x.of(7, 0), 7);
    }

    private static void companyOnNoCell() {
        Due.says("`int company(int ward, int men, int cell) throws NoSuchElementException`");
        FireWards x = new FireWards(1, 0);
        for (int i = 0; i <= 8; i++) {
            Due.none("cell -1", () -> x.company(0, 1, -1));
            Due.none("cell 2", () -> x.company(0, 1, 2));
            Due.none("cell 2, numbers wrong too", () -> x.company(-1, 0, 2));
            Due.is("none came", x.count(5), i);
            x.company(0, 1, 1);
        }
    }

    private static void cellWhats() {
        Due.says("Of a CELL: 0 its STATE (NONE of GROUND), 1 WOOD, 2 WARD, 3 FUEL, 4 WARMTH, 5 WET, "
            + "6 who has its ROOF (NONE), 7 whether a WELL is there (1).");
        FireWards x = new FireWards(2, 1);
        x.house(0, 9, 6);
        x.house(1, 8, 7);
        x.well(5, true);
        x.company(0, 1, 3);
        x.company(7, 2, 4);
        x.light(1);
        x.hours(1);
        int[] whole = {0, 9, 6, 9, 1, 0, FireWards.NONE, 0};
        int[] burning = {1, 8, 7, 7, 0, 4, 1, 0};
        int[] well = {FireWards.NONE, 0, 0, 0, 0, 0, FireWards.NONE, 1};
        for (int what = 0; what < 8; what++) {
            Due.is("whole " + what, x.cell(0, what), whole[what]);
            Due.is("burning " + what, x.cell(1, what), burning[what]);
            Due.is("a well " + what, x.cell(5, what), well[what]);
        }
    }

    private static void groundIsNought() {
        Due.says("(0 of GROUND in 1 to 5.)");
        FireWards x = new FireWards(1, 0);
        x.well(1, true);
        x.hours(3);
        for (int what = 1; what <= 5; what++) {
            Due.is("ground " + what, x.cell(0, what), 0);
            Due.is("ground with a well " + what, x.cell(1, what), 0);
        }
    }

    private static final int[] NO_WHATS = {MIN, -256, -2, -1, 8, 9, 10, 16, 256, MAX};

    private static void anotherCellWhat() {
        Due.says("NoSuchElementException: another what.");
        FireWards x = new FireWards(1, 0);
        x.house(1, 1, 0);
        for (int what : NO_WHATS) {
            Due.none("ground, what " + what, () -> x.cell(0, what));
            Due.none("a house, what " + what, () -> x.cell(1, what));
            Due.none("no cell, what " + what, () -> x.cell(2, what));
        }
        for (int what = 0; what < 8; what++) {
            int w = what;
            Due.none("no cell, what " + what, () -> x.cell(2, w));
            Due.none("no cell, what " + what, () -> x.cell(-1, w));
        }
    }

    private static void ofWhats() {
        Due.says("Of a COMPANY: 0 its WARD, 1 MEN, 2 CELL, 3 GOAL's CELL (NONE), "
            + "4 whether that is to be pulled down (1), 5 PAID, 6 QUARRELS, 7 HOUSES that it put out.");
        FireWards x = new FireWards(2, 1);
        x.house(0, 2, 5);
        x.house(5, 9, 4);
        x.company(5, 8, 1);
        x.company(5, 1, 3);
        x.light(0);
        x.hours(1);
        x.pull(1, 5);
        int[] first = {5, 8, 1, FireWards.NONE, 0, 1, 0, 1};
        int[] second = {5, 1, 3, 5, 1, 0, 1, 0};
        for (int what = 0; what < 8; what++) {
            Due.is("of 0, " + what, x.of(0, what), first[what]);
            Due.is("of 1, " + what, x.of(1, what), second[what]);
        }
    }

    private static void noSuchOf() {
        Due.says("NoSuchElementException: no such COMPANY, what.");
        FireWards x = new FireWards(0, 0);
        for (int companies = 0; companies <= 8; companies++) {
            int next = companies;
            for (int what = 0; what < 8; what++) {
                int w = what;
                Due.none("of " + companies + " " + what, () -> x.of(next, w));
            }
            Due.none("of -1", () -> x.of(-1, 0));
            Due.none("of the least number", () -> x.of(MIN, 0));
            Due.none("of the greatest number", () -> x.of(MAX, 0));
            x.company(0, 1, 0);
            Due.is("of " + companies, next < 8 ? x.of(next, 1) : 1, 1);
        }
        for (int what : NO_WHATS) {
            Due.none("what " + what, () -> x.of(7, what));
            Due.none("no company, what " + what, () -> x.of(8, what));
        }
    }

    private static void countWhats() {
        Due.says("0 the hour, 1 BURNING HOUSES, 2 WHOLE ones, 3 ASHES, 4 PULLED DOWN, 5 COMPANIES, 6 LAWS, "
            + "7 QUARRELS of all, 8 bytes of the tape, 9 the LAW in force (NONE).");
        FireWards x = new FireWards(7, 1);
        for (int cell = 0; cell < 16; cell++) {
            x.house(cell, 9, 0);
        }
        Due.is("all are whole", x.count(2), 16);
        FireWards y = new FireWards(7, 0);
        int[] wood = {9, 9, 0, 1, 1, 1, 0, 2};
        for (int cell = 0; cell < 8; cell++) {
            y.house(cell, wood[cell], 1);
        }
        Due.is("all are whole", y.count(2), 6);
        for (int i = 0; i < 4; i++) {
            y.company(0, 2, 6);
        }
        y.light(3);
        y.light(4);
        y.light(5);
        y.light(0);
        y.pull(0, 7);
        y.send(1, 5);
        y.send(2, 5);
        y.send(3, 5);
        y.hours(1);
        Due.law(y, "", 0);
        Due.law(y, "", 0);
        y.feed(0, 0, 0, 0, 0);
        int[] due = {1, 1, 1, 3, 1, 4, 2, 2, 20, 1};
        for (int what = 0; what < 10; what++) {
            Due.is("count " + what, y.count(what), due[what]);
        }
    }

    private static void anotherCount() {
        Due.says("NoSuchElementException: another what.");
        FireWards x = new FireWards(0, 0);
        for (int what : new int[] {MIN, -256, -10, -2, -1, 10, 11, 16, 256, MAX}) {
            Due.none("count " + what, () -> x.count(what));
        }
        Due.is("the first", x.count(0), 0);
        Due.is("the last", x.count(9), FireWards.NONE);
    }

    private static void lastCall() {
        Due.says("An object is used for at most 512 calls after it has been made");
        FireWards x = new FireWards(7, 7);
        for (int call = 1; call <= 511; call++) {
            if (x.count(0) != 0) {
                Due.is("call " + call, x.count(0), 0);
            }
        }
        Due.yes("the last call", x.house(63, 9, 7));
    }
}
