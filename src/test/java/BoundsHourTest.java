/**
 * The boundary cases of AN HOUR, a method for each sentence that names one: "Terms" part 3 and
 * promises 9 to 12. What is unchanged behind a refused call stands in RefusedTest.
 */
public final class BoundsHourTest {
    private static final int NONE = FireWards.NONE;
    private static final int MIN = Integer.MIN_VALUE;
    private static final int MAX = Integer.MAX_VALUE;

    public static void main(String[] args) {
        inThisOrder();
        goesOneCell();
        fewestSteps();
        toTheLeast();
        notIntoBurning();
        noWay();
        roofs();
        quarrels();
        wetByMen();
        wells();
        pulling();
        enoughWet();
        wholeAgain();
        paidByRoof();
        lessFuel();
        noRoofNoGoal();
        warmth();
        notBelowNought();
        allAtOnce();
        fiveBurns();
        bells();
        bellsOfNoOtherHour();
        bellsOfTheHour();
        aheadOfAllBells();
        hourIsOneMore();
        lights();
        notWhole();
        sends();
        roofIsLost();
        notBurning();
        noSuchSend();
        pulls();
        hours();
        notSoManyHours();
        Due.end("BoundsHourTest");
    }

    /** A row of houses of wood 9; '.' is ground, 'o' a well, '*' a house that burns, of wards 0. */
    private static FireWards city(int wide, String cells) {
        FireWards x = new FireWards(wide - 1, cells.length() / wide - 1);
        for (int cell = 0; cell < cells.length(); cell++) {
            switch (cells.charAt(cell)) {
                case '#':
                    x.house(cell, 9, 0);
                    break;
                case '*':
                    x.house(cell, 9, 0);
                    x.light(cell);
                    break;
                case 'o':
                    x.well(cell, true);
                    break;
                default:
            }
        }
        return x;
    }

    /** Where a company goes in an hour from a cell to put out or pull down what is at the goal. */
    private static int step(int wide, String cells, int from, int goal) {
        FireWards x = city(wide, cells);
        x.company(7, 1, from);
        Due.yes("told", cells.charAt(goal) == '*' ? x.send(0, goal) : x.pull(0, goal));
        x.hours(1);
        return x.of(0, 2);
    }

    private static void inThisOrder() {
        Due.says("AN HOUR, in this order.");
        // (a) to (e) in one: it goes, has the roof, works and puts out; nothing is warmed any more.
        FireWards x = new FireWards(3, 0);
        x.house(0, 9, 1);
        x.house(1, 1, 0);
        x.company(0, 4, 3);
        x.light(1);
        x.hours(1);
        Due.is("it goes", x.of(0, 2), 2);
        Due.is("puts out", x.cell(1, 0), 0);
        Due.is("is paid", x.of(0, 5), 1);
        Due.is("warms nothing", x.cell(0, 4), 0);
        // (c) before (e): what is pulled down in the hour in which it would burn doesn't.
        FireWards y = city(4, "*#..");
        y.company(7, 9, 3);
        y.hours(4);
        y.pull(0, 1);
        y.hours(1);
        Due.is("pulled down", y.cell(1, 0), 3);
        Due.is("one fire", y.count(1), 1);
        // (c) before (f): who has pulled down hears the bells of that hour. 2 burns in the fifth.
        FireWards z = new FireWards(5, 0);
        z.house(0, 1, 0);
        z.house(2, 9, 3);
        z.house(3, 9, 0);
        z.light(3);
        z.company(3, 1, 1);
        z.hours(4);
        z.pull(0, 0);
        z.hours(1);
        Due.is("pulled down", z.cell(0, 0), 3);
        Due.is("called", z.of(0, 3), 2);
        // (a) before (f): who is called goes in the next hour; (b) too: no roof before that.
        FireWards w = new FireWards(5, 0);
        w.house(1, 9, 3);
        w.house(0, 9, 0);
        w.light(0);
        w.company(3, 1, 4);
        Due.law(w, "call far=3;", 0);
        w.hours(5);
        Due.is("called", w.of(0, 3), 1);
        Due.is("not gone yet", w.of(0, 2), 4);
        w.hours(1);
        Due.is("goes now", w.of(0, 2), 3);
        Due.is("no roof from there", w.cell(1, 6), NONE);
        w.hours(1);
        Due.is("there", w.of(0, 2), 2);
        Due.is("roof", w.cell(1, 6), 0);
    }

    private static void goesOneCell() {
        Due.says("one with a GOAL that isn't BESIDE it goes one CELL on");
        Due.is("on it", step(2, "*.", 0, 0), 1);
        Due.is("beside it", step(3, "*..", 1, 0), 1);
        Due.is("2 far", step(3, "*..", 2, 0), 1);
        Due.is("7 far", step(8, "*.......", 7, 0), 6);
        Due.is("to a house to be pulled down", step(8, "#.......", 7, 0), 6);
        Due.is("beside a house to be pulled down", step(8, "#.......", 1, 0), 1);
        // Who has no goal stays, fire or no fire.
        FireWards x = city(3, "*..");
        x.company(7, 1, 2);
        x.hours(3);
        Due.is("without a goal", x.of(0, 2), 2);
        // More than one may stand in one cell.
        FireWards y = city(4, "*...");
        y.company(7, 1, 3);
        y.company(7, 1, 2);
        y.send(0, 0);
        y.send(1, 0);
        y.hours(2);
        Due.is("there", y.of(0, 2), 1);
        Due.is("there too", y.of(1, 2), 1);
    }

    private static void fewestSteps() {
        Due.says("to that CELL BESIDE its own from which fewest steps lead to one BESIDE the GOAL (0 steps if it is one)");
        Due.is("up", step(1, "*...", 3, 0), 2);
        Due.is("down", step(1, "...*", 0, 3), 1);
        Due.is("right", step(4, "...*", 0, 3), 1);
        Due.is("left", step(4, "*...", 3, 0), 2);
        // What is nearer to the goal is a blind alley.
        Due.is("out of it", step(4, "..**" + ".*.." + "....", 1, 3), 0);
        Due.is("not into it", step(4, "..**" + ".*.." + "....", 0, 3), 4);
        Due.is("right, where down is shut", step(4, "...." + "**.*" + "...*", 0, 11), 1);
        // 8 by 8 from corner to corner: each step is one of the fewest.
        FireWards x = city(8, ".".repeat(63) + "#");
        x.company(7, 1, 0);
        x.pull(0, 63);
        for (int far = 14; far >= 1; far--) {
            int at = x.of(0, 2);
            Due.is("far", 7 - at % 8 + 7 - at / 8, far);
            x.hours(1);
        }
        Due.is("beside", x.of(0, 2), 55);
    }

    private static void toTheLeast() {
        Due.says("of like ones to the least");
        Due.is("right or down", step(3, "........*", 0, 8), 1);
        Due.is("left or down", step(3, "......*..", 2, 6), 1);
        Due.is("up or right", step(3, "..*......", 6, 2), 3);
        Due.is("up or left", step(3, "*........", 8, 0), 5);
        // On its goal: above, left, right, below, the first that doesn't burn.
        Due.is("all free", step(3, "....*....", 4, 4), 1);
        Due.is("above burns", step(3, ".*..*....", 4, 4), 3);
        Due.is("left burns too", step(3, ".*.**....", 4, 4), 5);
        Due.is("right burns too", step(3, ".*.***...", 4, 4), 7);
        Due.is("all burn", step(3, ".*.***.*.", 4, 4), 4);
        // Two ways round, as long as one another.
        Due.is("left or right", step(5, "....." + ".***." + "..*..", 2, 12), 1);
    }

    private static void notIntoBurning() {
        Due.says("steps go from CELL to CELL BESIDE, not into BURNING HOUSES, the GOAL");
        Due.is("round a fire", step(3, ".**" + "...", 0, 2), 3);
        Due.is("no round without a fire", step(3, ".#*" + "...", 0, 2), 1);
        Due.is("not over the end of a row", step(4, "...*" + "****" + "*...", 3, 8), 3);
        Due.is("not over corners", step(3, ".*." + "*.." + "..*", 0, 8), 0);
        Due.is("out of a fire", step(4, "**.*", 1, 3), 2);
        Due.is("out of a fire, not into the next", step(5, ".**.*", 1, 4), 1);
        // Over a house, a well, ashes and one that was pulled down.
        FireWards x = new FireWards(6, 0);
        x.house(3, 1, 0);
        x.house(4, 1, 0);
        x.company(7, 1, 5);
        x.pull(0, 4);
        x.light(3);
        x.hours(1);
        Due.is("ashes", x.cell(3, 0), 2);
        Due.is("pulled down", x.cell(4, 0), 3);
        x.house(1, 9, 0);
        x.well(2, true);
        x.house(6, 9, 0);
        x.company(6, 1, 0);
        x.light(6);
        x.send(1, 6);
        for (int cell = 1; cell <= 5; cell++) {
            x.hours(1);
            Due.is("over all of them", x.of(1, 2), cell);
        }
        x.hours(1);
        Due.is("not into the goal", x.of(1, 2), 5);
    }

    private static void noWay() {
        Due.says("if there is no way it stays.");
        Due.is("a fire between", step(3, ".**", 0, 2), 0);
        Due.is("all around the goal", step(3, ".*." + "***" + ".*.", 0, 4), 0);
        Due.is("all around the company", step(4, ".*.." + "*.*." + ".*.*", 5, 11), 5);
        Due.is("on the goal, one cell in all", step(1, "*", 0, 0), 0);
        Due.is("on the goal, to pull it down", step(1, "#", 0, 0), 0);
        Due.is("in a corner", step(2, ".*" + "**", 0, 3), 0);
        // Where it could go to and fro, but not to the goal.
        Due.is("shut up in two cells", step(4, "..**", 1, 3), 1);
        Due.is("shut up in two cells", step(4, "**..", 2, 0), 2);
        Due.is("shut up in four cells", step(4, "..*." + "..*." + "***." + "...*", 5, 15), 5);
        Due.is("shut up in four cells, below", step(4, "*..." + ".***" + ".*.." + ".*..", 10, 0), 10);
        // Also when the companies of this city have gone everywhere before.
        FireWards y = city(5, "....#" + "....#" + "####*" + "....#" + "....*");
        y.company(7, 1, 0);
        y.company(7, 1, 20);
        y.send(0, 24);
        y.send(1, 14);
        y.hours(1);
        Due.is("on the way", y.of(0, 2), 1);
        Due.is("on the way", y.of(1, 2), 15);
        for (int cell = 10; cell < 14; cell++) {
            y.light(cell);
        }
        y.light(4);
        y.light(9);
        y.light(19);
        y.send(0, 24);
        y.send(1, 4);
        y.hours(1);
        Due.is("shut up above", y.of(0, 2), 1);
        Due.is("shut up below", y.of(1, 2), 15);
        // On a burning one beside the goal it is there.
        Due.is("beside, on a burning one", step(3, ".*." + "***" + ".*.", 1, 4), 1);
        // And goes when there is a way again: 1 burns nine hours.
        FireWards x = city(4, ".*.*");
        x.company(7, 1, 0);
        x.send(0, 3);
        x.hours(8);
        Due.is("stays", x.of(0, 2), 0);
        x.hours(1);
        Due.is("stays in the hour in which 1 burns down", x.of(0, 2), 0);
        x.house(3, 9, 0);
        x.light(3);
        x.send(0, 3);
        x.hours(1);
        Due.is("goes", x.of(0, 2), 1);
    }

    private static void roofs() {
        Due.says("of each BURNING HOUSE without a ROOF, in order, the COMPANY of least number that is BESIDE it "
            + "with it as its GOAL has its ROOF");
        // 0 is two far, 1 is beside without the goal, 2 is beside to pull another, 3 and 4 are beside.
        FireWards x = city(5, "....." + ".#*.." + ".....");
        int[] cells = {0, 2, 12, 8, 2};
        for (int cell : cells) {
            x.company(7, 1, cell);
        }
        x.send(0, 7);
        x.pull(2, 6);
        x.send(3, 7);
        x.send(4, 7);
        Due.is("no roof without an hour", x.cell(7, 6), NONE);
        x.hours(1);
        Due.is("the least number beside", x.cell(7, 6), 3);
        x.hours(3);
        Due.is("a lesser one is there", x.of(0, 2), 2);
        Due.is("who came first keeps it", x.cell(7, 6), 3);
        // Companies 0 and 7 have a roof too; two houses in one hour have each its own.
        FireWards y = city(3, "*.*");
        for (int i = 0; i < 8; i++) {
            y.company(7, 1, 1);
        }
        y.send(7, 0);
        y.send(0, 2);
        y.hours(1);
        Due.is("company 7", y.cell(0, 6), 7);
        Due.is("company 0", y.cell(2, 6), 0);
        Due.is("a whole one has none", city(1, "#").cell(0, 6), NONE);
    }

    private static void quarrels() {
        Due.says("each other such one QUARRELS (counted).");
        for (int n = 0; n <= 8; n++) {
            FireWards x = city(3, "....*....");
            for (int i = 0; i < n; i++) {
                x.company(7, 1, 1 + 2 * (i % 4));
                x.send(i, 4);
            }
            x.hours(1);
            Due.is("of all " + n, x.count(7), Math.max(0, n - 1));
            for (int i = 0; i < n; i++) {
                Due.is("of " + i, x.of(i, 6), i == 0 ? 0 : 1);
            }
            x.hours(1);
            Due.is("not once more, there is a roof", x.count(7), Math.max(0, n - 1));
        }
        // A roof that was lost is quarrelled for anew.
        FireWards y = city(3, "*.*");
        for (int i = 0; i < 3; i++) {
            y.company(7, 1, 1);
            y.send(i, 0);
        }
        y.hours(1);
        Due.is("two", y.count(7), 2);
        y.send(0, 2);
        y.hours(1);
        Due.is("one more", y.count(7), 3);
        Due.is("the last one, twice", y.of(2, 6), 2);
        Due.is("the next one has the roof", y.cell(0, 6), 1);
    }

    private static void wetByMen() {
        Due.says("one that has a ROOF and is BESIDE that HOUSE: its WET is more by the MEN");
        for (int men = 1; men <= 9; men++) {
            FireWards x = city(3, "*..");
            x.company(7, men, 2);
            x.company(7, 9, 1);
            x.send(0, 0);
            x.hours(1);
            Due.is("men " + men, x.cell(0, 5), men);
            x.hours(1);
            Due.is("twice men " + men, x.cell(0, 5), 2 * men);
        }
        // Who quarrels does no work, nor who is not there yet.
        FireWards y = city(4, "*...");
        y.company(7, 1, 1);
        y.company(7, 9, 1);
        y.company(7, 9, 3);
        for (int i = 0; i < 3; i++) {
            y.send(i, 0);
        }
        y.hours(1);
        Due.is("who has the roof alone", y.cell(0, 5), 1);
        y.hours(3);
        Due.is("who has the roof alone", y.cell(0, 5), 4);
    }

    private static void wells() {
        Due.says("twice those if a WELL is at most 2 FAR from the COMPANY's CELL");
        // 5 by 5, the house in the middle, the company to the left of it.
        for (int well = 0; well < 25; well++) {
            if (well == 12) {
                continue;
            }
            FireWards x = city(5, ".".repeat(12) + "*" + ".".repeat(12));
            x.company(7, 3, 11);
            x.send(0, 12);
            x.well(well, true);
            x.hours(1);
            int far = Math.abs(well % 5 - 1) + Math.abs(well / 5 - 2);
            Due.is("well at " + well + ", " + far + " far", x.cell(12, 5), far <= 2 ? 6 : 3);
            x.well(well, false);
            x.hours(1);
            Due.is("without it", x.cell(12, 5), far <= 2 ? 9 : 6);
        }
        // In the first and in the last cell too.
        for (int well : new int[] {0, 4}) {
            for (int men = 1; men <= 9; men += 8) {
                FireWards z = city(5, "..*..");
                z.well(well, true);
                z.company(7, men, well == 0 ? 1 : 3);
                z.send(0, 2);
                z.hours(1);
                Due.is("well at " + well, z.cell(2, 5), 2 * men);
            }
        }
        FireWards y = city(5, "ooooo" + "ooooo" + "oo*oo");
        y.company(7, 9, 11);
        y.send(0, 12);
        y.hours(1);
        Due.is("twice, however many there are", y.cell(12, 5), 18);
    }

    private static void pulling() {
        Due.says("its FUEL is less by the MEN; below 1 it is 0, and the HOUSE is PULLED DOWN (and no GOAL any more)");
        for (int wood = 1; wood <= 9; wood++) {
            for (int men = 1; men <= 9; men++) {
                FireWards x = new FireWards(2, 0);
                x.house(0, wood, 0);
                x.company(0, men, 1);
                x.pull(0, 0);
                x.hours(1);
                boolean down = wood - men < 1;
                Due.is("fuel", x.cell(0, 3), down ? 0 : wood - men);
                Due.is("state", x.cell(0, 0), down ? 3 : 0);
                Due.is("goal", x.of(0, 3), down ? NONE : 0);
                Due.is("to be pulled down", x.of(0, 4), down ? 0 : 1);
                Due.is("wood", x.cell(0, 1), wood);
            }
        }
        // From two far nothing is pulled; who is on the way loses the goal with the others.
        FireWards y = new FireWards(4, 0);
        y.house(0, 3, 0);
        y.company(0, 2, 1);
        y.company(0, 1, 4);
        y.company(0, 2, 1);
        for (int i = 0; i < 3; i++) {
            y.pull(i, 0);
        }
        y.hours(1);
        Due.is("pulled down by the two", y.cell(0, 0), 3);
        Due.is("fuel", y.cell(0, 3), 0);
        for (int i = 0; i < 3; i++) {
            Due.is("no goal", y.of(i, 3), NONE);
            Due.is("none to pull", y.of(i, 4), 0);
        }
        FireWards z = new FireWards(4, 0);
        z.house(0, 3, 0);
        z.company(0, 9, 3);
        z.pull(0, 0);
        z.hours(1);
        Due.is("two far", z.cell(0, 3), 3);
        z.hours(1);
        Due.is("beside in the next hour", z.cell(0, 0), 3);
    }

    private static void enoughWet() {
        Due.says("if its WET is 4 times its FUEL at least, it is WHOLE again");
        for (int wood = 1; wood <= 9; wood++) {
            for (int men = 1; men <= 9; men++) {
                for (int times = 1; times <= 2; times++) {
                    FireWards x = new FireWards(3, 0);
                    x.house(0, wood, 0);
                    x.company(7, men, 1);
                    x.well(3, times == 2);
                    x.light(0);
                    x.send(0, 0);
                    x.hours(1);
                    String what = wood + " wood, " + times * men + " wet";
                    boolean out = times * men >= 4 * wood;
                    Due.is(what + ": state", x.cell(0, 0), out ? 0 : wood == 1 ? 2 : 1);
                    Due.is(what + ": fuel", x.cell(0, 3), out ? wood : wood - 1);
                    Due.is(what + ": wet", x.cell(0, 5), out ? 0 : times * men);
                    Due.is(what + ": put out", x.of(0, 7), out ? 1 : 0);
                    Due.is(what + ": paid", x.of(0, 5), out ? 1 : 0);
                }
            }
        }
    }

    private static void wholeAgain() {
        Due.says("it is WHOLE again (WARMTH, WET 0)");
        // 1 catches fire by 0 with warmth 5 and is put out with what 0 gives it anew.
        FireWards x = new FireWards(2, 0);
        x.house(0, 9, 7);
        x.house(1, 1, 0);
        x.company(0, 4, 2);
        x.light(0);
        x.hours(5);
        Due.is("burning", x.cell(1, 0), 1);
        Due.is("warmth", x.cell(1, 4), 5);
        x.hours(1);
        Due.is("whole", x.cell(1, 0), 0);
        Due.is("wet", x.cell(1, 5), 0);
        Due.is("warmth of this hour alone", x.cell(1, 4), 1);
        Due.is("fuel", x.cell(1, 3), 1);
        Due.is("wood", x.cell(1, 1), 1);
        // It can burn and be put out again.
        x.hours(4);
        Due.is("9 hours and one: ashes warm nothing", x.cell(1, 4), 1);
        x.light(1);
        x.hours(1);
        Due.is("put out twice", x.of(0, 7), 2);
    }

    private static void paidByRoof() {
        Due.says("who has the ROOF is PAID its PAY (the law in force at this hour)");
        FireWards x = new FireWards(1, 0);
        x.house(0, 1, 0);
        x.company(0, 4, 1);
        x.company(0, 9, 1);
        Due.law(x, "call 1;pay 10;", 0);
        Due.law(x, "call 1;pay 100;", 1);
        x.hours(22);
        for (int i = 0; i < 4; i++) {
            x.light(0);
            x.hours(1);
        }
        Due.is("hours 22, 23 and 24, 25", x.of(0, 5), 220);
        Due.is("put out", x.of(0, 7), 4);
        Due.is("who has none is not", x.of(1, 5), 0);
        Due.is("nor has put out any", x.of(1, 7), 0);
        Due.is("but quarrels", x.of(1, 6), 4);
        // Wet enough without a roof: put out, and nobody is paid.
        FireWards y = city(3, "..*");
        y.house(0, 2, 0);
        y.company(0, 5, 1);
        y.light(0);
        y.hours(1);
        Due.is("wet", y.cell(0, 5), 5);
        Due.is("fuel", y.cell(0, 3), 1);
        y.send(0, 2);
        y.hours(1);
        Due.is("whole", y.cell(0, 0), 0);
        Due.is("not paid", y.of(0, 5), 0);
        Due.is("not put out by it", y.of(0, 7), 0);
    }

    private static void lessFuel() {
        Due.says("else FUEL is 1 less; at 0 it is ASHES.");
        for (int wood = 1; wood <= 9; wood++) {
            FireWards x = new FireWards(0, 0);
            x.house(0, wood, 0);
            x.light(0);
            for (int hour = 1; hour < wood; hour++) {
                x.hours(1);
                Due.is("burning", x.cell(0, 0), 1);
                Due.is("fuel", x.cell(0, 3), wood - hour);
            }
            x.hours(1);
            Due.is("ashes", x.cell(0, 0), 2);
            Due.is("fuel", x.cell(0, 3), 0);
            Due.is("wood", x.cell(0, 1), wood);
            x.hours(2);
            Due.is("still ashes", x.cell(0, 0), 2);
            Due.is("fuel, not below 0", x.cell(0, 3), 0);
        }
    }

    private static void noRoofNoGoal() {
        Due.says("In both ways it has no ROOF then, and is nobody's GOAL any more.");
        for (int men = 3; men <= 4; men++) {
            FireWards x = new FireWards(7, 0);
            x.house(0, 1, 0);
            x.company(0, men, 1);
            x.company(0, 1, 1);
            x.company(0, 1, 7);
            x.light(0);
            x.hours(1);
            Due.is("ashes or whole", x.cell(0, 0), men == 3 ? 2 : 0);
            Due.is("no roof", x.cell(0, 6), NONE);
            for (int i = 0; i < 3; i++) {
                Due.is("no goal", x.of(i, 3), NONE);
            }
        }
        // Others keep what they have.
        FireWards y = city(4, "..**");
        y.house(0, 1, 0);
        y.company(7, 1, 1);
        y.light(0);
        y.send(0, 3);
        y.hours(1);
        Due.is("another goal", y.of(0, 3), 3);
        // Who is free in this hour hears the bells of this hour: 2 begins to burn in the fifth.
        for (int men = 3; men <= 4; men++) {
            FireWards z = new FireWards(3, 0);
            z.house(0, 1, 0);
            z.house(2, 9, 0);
            z.house(3, 9, 1);
            z.company(0, men, 1);
            z.light(3);
            z.hours(4);
            z.light(0);
            Due.is("at the first fire", z.of(0, 3), 0);
            z.hours(1);
            Due.is("ashes or whole", z.cell(0, 0), men == 3 ? 2 : 0);
            Due.is("burning", z.cell(2, 0), 1);
            Due.is("called at once", z.of(0, 3), 2);
        }
    }

    private static void warmth() {
        Due.says("2 for each BURNING one BESIDE it, 2 more if the WIND blows from that one towards it; less 1");
        int[] beside = {7, 3, 1, 5};
        for (int set = 0; set < 16; set++) {
            for (int wind = 0; wind <= 4; wind++) {
                FireWards x = city(3, "#".repeat(9));
                x.wind(wind);
                int due = -1;
                for (int i = 0; i < 4; i++) {
                    if ((set >> i & 1) != 0) {
                        x.light(beside[i]);
                        // Wind 1 comes from below (7), 2 from the left (3), 3 from above, 4 from the right.
                        due += wind == i + 1 ? 4 : 2;
                    }
                }
                x.hours(1);
                Due.is("fires " + set + ", wind " + wind, x.cell(4, 4), Math.max(0, due));
                Due.is("burns", x.cell(4, 0), due >= 5 ? 1 : 0);
            }
        }
        FireWards y = city(2, "#.");
        y.wind(2);
        y.hours(3);
        Due.is("wind alone warms nothing", y.cell(0, 4), 0);
    }

    private static void notBelowNought() {
        Due.says("less 1; not below 0.");
        FireWards x = new FireWards(1, 0);
        x.house(0, 2, 0);
        x.house(1, 9, 0);
        x.wind(2);
        x.light(0);
        x.hours(1);
        Due.is("warm", x.cell(1, 4), 3);
        for (int warmth : new int[] {2, 1, 0, 0, 0}) {
            x.hours(1);
            Due.is("cools", x.cell(1, 4), warmth);
        }
        x.hours(100);
        Due.is("not below 0", x.cell(1, 4), 0);
    }

    private static void allAtOnce() {
        Due.says("(e) WARMTH: each WHOLE HOUSE, all at once");
        for (int lit : new int[] {0, 4}) {
            // A row of five: its fire comes on by one house every five hours, to either side.
            FireWards x = city(5, "#####");
            x.light(lit);
            int next = lit == 0 ? 1 : 3;
            x.hours(4);
            Due.is("warm", x.cell(next, 4), 4);
            x.hours(1);
            Due.is("burns", x.cell(next, 0), 1);
            Due.is("but warms nothing yet", x.cell(2, 4), 0);
            x.hours(1);
            Due.is("now it does", x.cell(2, 4), 1);
            Due.is("what burns is not warmed", x.cell(next, 4), 5);
        }
        // Neither what was put out nor what burnt down in this hour warms.
        for (int men = 3; men <= 4; men++) {
            FireWards y = new FireWards(2, 0);
            y.house(1, 1, 0);
            y.house(2, 9, 1);
            y.company(0, men, 0);
            y.light(1);
            y.hours(1);
            Due.is("cold", y.cell(2, 4), 0);
        }
        // Ashes and what was pulled down are not warmed.
        FireWards z = city(3, ".*.");
        z.house(0, 1, 0);
        z.house(2, 1, 0);
        z.company(7, 1, 1);
        z.light(0);
        z.pull(0, 2);
        z.hours(4);
        Due.is("ashes", z.cell(0, 4), 0);
        Due.is("pulled down", z.cell(2, 4), 0);
    }

    private static void fiveBurns() {
        Due.says("Those that have 5 then, or more, are BURNING.");
        int[] winds = {0, 2};
        int[] hours = {5, 2};
        int[] last = {5, 6};
        for (int i = 0; i < 2; i++) {
            FireWards x = city(2, "*#");
            x.wind(winds[i]);
            x.hours(hours[i] - 1);
            Due.is("not yet", x.cell(1, 0), 0);
            x.hours(1);
            Due.is("burning", x.cell(1, 0), 1);
            Due.is("warmth", x.cell(1, 4), last[i]);
            Due.is("no fuel burnt yet", x.cell(1, 3), 9);
            x.hours(1);
            Due.is("now", x.cell(1, 3), 8);
        }
        // 4 is not enough, and goes back to 3.
        FireWards y = new FireWards(1, 0);
        y.house(0, 4, 0);
        y.house(1, 9, 0);
        y.light(0);
        y.hours(3);
        y.light(0);
        Due.is("3", y.cell(1, 4), 3);
        y.hours(1);
        Due.is("the other is ashes", y.cell(0, 0), 2);
        Due.is("2, whole", y.cell(1, 4), 2);
        FireWards z = new FireWards(1, 0);
        z.house(0, 5, 0);
        z.house(1, 9, 0);
        z.light(0);
        z.hours(4);
        Due.is("4", z.cell(1, 4), 4);
        Due.is("whole", z.cell(1, 0), 0);
        z.hours(1);
        Due.is("3", z.cell(1, 4), 3);
        Due.is("whole", z.cell(1, 0), 0);
        // The first and the last cell burn like all others.
        for (int cell = 0; cell < 6; cell++) {
            FireWards v = city(3, "######");
            v.light(cell % 3 == 2 ? cell - 1 : cell + 1);
            v.hours(5);
            Due.is("cell " + cell, v.cell(cell, 0), 1);
            Due.is("its warmth", v.cell(cell, 4), 5);
        }
        // The most that can be: 4 and one fire more on each side.
        FireWards w = city(3, "#*#" + "###" + "#*#");
        w.hours(1);
        Due.is("3", w.cell(4, 4), 3);
        w.light(3);
        w.light(5);
        w.wind(3);
        w.hours(1);
        Due.is("3 and 10 less 1", w.cell(4, 4), 12);
        Due.is("burning", w.cell(4, 0), 1);
    }

    private static void bells() {
        Due.says("of each that began to burn now, in order: each COMPANY without a GOAL, 0 first, that is CALLED has "
            + "it as its GOAL.");
        // 1 and 3 begin to burn in the fifth hour.
        FireWards x = new FireWards(4, 0);
        for (int cell = 0; cell < 5; cell++) {
            x.house(cell, 9, cell);
        }
        int[] wards = {3, 1, 2, 1, 3, 4, 1, 3};
        for (int ward : wards) {
            x.company(ward, 1, 0);
        }
        x.pull(7, 4);
        Due.is("its own bell", x.light(2), 1);
        x.hours(4);
        int[] before = {NONE, NONE, 2, NONE, NONE, NONE, NONE, 4};
        int[] after = {3, 1, 2, 1, 3, NONE, 1, 4};
        for (int i = 0; i < 8; i++) {
            Due.is("before, " + i, x.of(i, 3), before[i]);
        }
        x.hours(1);
        for (int i = 0; i < 8; i++) {
            Due.is("after, " + i, x.of(i, 3), after[i]);
            Due.is("to pull down, " + i, x.of(i, 4), i == 7 ? 1 : 0);
        }
        // Called to both, each has the first; what burnt before rings no more.
        FireWards y = city(5, "##*##");
        y.company(7, 1, 4);
        y.company(7, 1, 0);
        Due.law(y, "call 1;", 0);
        y.hours(5);
        Due.is("the first", y.of(0, 3), 1);
        Due.is("the first", y.of(1, 3), 1);
        FireWards z = city(2, "*.");
        z.company(0, 1, 1);
        z.hours(5);
        Due.is("an old fire", z.of(0, 3), NONE);
        // All that began to burn are fires of each of their bells.
        FireWards w = city(5, "##*##");
        w.company(7, 1, 4);
        Due.law(w, "call fires=3 and far=3;", 0);
        w.hours(5);
        Due.is("the first bell counts both", w.of(0, 3), 1);
    }

    private static void bellsOfNoOtherHour() {
        Due.says("(f) BELLS: of each that began to burn now");
        // 1 and 3 began to burn in the fifth hour, 0 and 4 begin in the tenth; 6 is lit between.
        FireWards x = new FireWards(6, 0);
        for (int cell = 0; cell < 7; cell++) {
            x.house(cell, cell == 5 ? 0 : 9, cell);
        }
        x.company(1, 1, 5);
        x.company(3, 1, 5);
        x.light(2);
        x.hours(5);
        Due.is("called to 1", x.of(0, 3), 1);
        Due.is("called to 3", x.of(1, 3), 3);
        x.company(1, 1, 5);
        x.company(3, 1, 5);
        x.company(0, 1, 5);
        Due.is("6 is lit", x.light(6), 0);
        int[] goals = {1, 3, NONE, NONE, NONE};
        for (int i = 0; i < 5; i++) {
            Due.is("no other bell rang for " + i, x.of(i, 3), goals[i]);
        }
        x.hours(1);
        Due.is("who is called to 3 has its roof", x.cell(3, 6), 1);
        x.hours(1);
        for (int i = 0; i < 5; i++) {
            Due.is("nor in an hour without one, " + i, x.of(i, 3), goals[i]);
        }
        x.hours(3);
        Due.is("0 burns", x.cell(0, 0), 1);
        Due.is("its bell", x.of(4, 3), 0);
        Due.is("no bell of 1", x.of(2, 3), NONE);
        Due.is("no bell of 3", x.of(3, 3), NONE);
        // First two in one hour, then one alone in a later one.
        FireWards y = new FireWards(5, 0);
        for (int cell = 0; cell < 4; cell++) {
            y.house(cell, 9, cell);
        }
        y.light(1);
        y.hours(5);
        Due.is("three burn", y.count(1), 3);
        y.company(2, 1, 5);
        y.company(0, 1, 5);
        y.company(3, 1, 5);
        y.hours(5);
        Due.is("3 burns too", y.cell(3, 0), 1);
        Due.is("no bell of 2", y.of(0, 3), NONE);
        Due.is("no bell of 0", y.of(1, 3), NONE);
        Due.is("the bell of 3", y.of(2, 3), 3);
    }

    private static void bellsOfTheHour() {
        Due.says("each in force from a DAY on");
        for (int lit = 18; lit <= 20; lit++) {
            FireWards x = new FireWards(2, 0);
            x.house(0, 9, 0);
            x.house(1, 9, 0);
            x.company(7, 1, 2);
            Due.law(x, "call 0;", 0);
            Due.law(x, "call hour=0;", 1);
            x.hours(lit);
            x.light(0);
            x.hours(5);
            Due.is("burning", x.cell(1, 0), 1);
            Due.is("begun in hour " + (lit + 4), x.of(0, 3), lit == 20 ? 1 : NONE);
        }
    }

    private static void aheadOfAllBells() {
        Due.says("A HOUSE that is being pulled down and burns now is no GOAL of that kind any more (ahead of all bells).");
        // 1 and 3 begin to burn at once; who pulls at 3 is free when the bell of 1 rings.
        FireWards x = new FireWards(7, 0);
        for (int cell = 0; cell < 5; cell++) {
            x.house(cell, 9, cell);
        }
        x.light(2);
        x.hours(4);
        int[] wards = {1, 3, 7, 7};
        for (int i = 0; i < 4; i++) {
            x.company(wards[i], 1, 7);
            x.pull(i, i < 3 ? 3 : 4);
        }
        x.hours(1);
        int[] goals = {1, 3, NONE, 4};
        for (int i = 0; i < 4; i++) {
            Due.is("goal of " + i, x.of(i, 3), goals[i]);
            Due.is("to pull down, " + i, x.of(i, 4), i == 3 ? 1 : 0);
        }
        // So it is when it is lit.
        FireWards y = city(2, "#.");
        y.company(0, 1, 1);
        y.company(7, 1, 1);
        y.pull(0, 0);
        y.pull(1, 0);
        Due.is("one of its ward", y.light(0), 1);
        Due.is("called", y.of(0, 3), 0);
        Due.is("to put it out", y.of(0, 4), 0);
        Due.is("not called", y.of(1, 3), NONE);
        Due.is("nothing to pull", y.of(1, 4), 0);
        y.hours(1);
        Due.is("water, no pulling", y.cell(0, 5), 1);
        Due.is("fuel as it burns", y.cell(0, 3), 8);
    }

    private static void hourIsOneMore() {
        Due.says("(g) The hour is one more.");
        FireWards x = new FireWards(0, 0);
        for (int hour = 0; hour < 50; hour++) {
            Due.is("hour", x.count(0), hour);
            Due.is("hours(1)", x.hours(1), hour + 1);
        }
    }

    private static void lights() {
        Due.says("A WHOLE HOUSE is set on fire (BURNING; its bell rings at once, as in (f)): how many COMPANIES have it "
            + "as their GOAL.");
        for (int n = 0; n <= 8; n++) {
            FireWards x = new FireWards(1, 0);
            x.house(0, 9, 3);
            x.house(1, 9, 4);
            for (int i = 0; i < 8; i++) {
                x.company(i < n ? 3 : 4, 1, 0);
            }
            Due.is("so many of its ward", x.light(0), n);
            Due.is("burning", x.cell(0, 0), 1);
            Due.is("no fuel burnt", x.cell(0, 3), 9);
            Due.is("no roof yet", x.cell(0, 6), NONE);
            Due.is("the others", x.light(1), 8 - n);
        }
        // Who has another goal is neither called nor counted.
        FireWards y = city(3, "#.#");
        y.company(0, 1, 1);
        y.company(0, 1, 1);
        y.pull(0, 2);
        Due.is("one is free", y.light(0), 1);
        Due.is("the other pulls on", y.of(0, 4), 1);
        // By a law that calls nobody, and by one that calls all.
        FireWards z = city(2, "##");
        z.company(0, 1, 0);
        z.law(0, 0);
        Due.is("nobody", z.light(0), 0);
        Due.law(z, "call 1;", 0);
        Due.is("all", z.light(1), 1);
    }

    private static void notWhole() {
        Due.says("NONE: it is no WHOLE HOUSE.");
        FireWards x = new FireWards(4, 0);
        x.house(1, 1, 0);
        x.house(3, 1, 0);
        x.company(0, 1, 2);
        x.company(0, 1, 2);
        x.pull(0, 3);
        x.light(1);
        x.hours(1);
        x.house(4, 9, 0);
        x.light(4);
        x.well(0, true);
        int[] states = {NONE, 2, NONE, 3, 1};
        for (int cell = 0; cell < 5; cell++) {
            Due.is("state", x.cell(cell, 0), states[cell]);
            Due.is("light", x.light(cell), NONE);
            Due.is("state stays", x.cell(cell, 0), states[cell]);
        }
        // A house built anew is whole again.
        x.house(1, 1, 7);
        Due.is("light", x.light(1), 0);
    }

    private static void sends() {
        Due.says("A COMPANY has a BURNING HOUSE as its GOAL (what it had is none any more; a ROOF of another one is "
            + "lost: nobody has it).");
        FireWards x = city(4, "*.*#");
        x.company(7, 1, 1);
        Due.yes("without a goal", x.send(0, 0));
        Due.is("goal", x.of(0, 3), 0);
        Due.yes("from one to another", x.send(0, 2));
        Due.is("goal", x.of(0, 3), 2);
        Due.yes("to pull down", x.pull(0, 3));
        Due.yes("from that", x.send(0, 0));
        Due.is("goal", x.of(0, 3), 0);
        Due.is("nothing to pull down", x.of(0, 4), 0);
        x.hours(1);
        Due.is("3 was not pulled at", x.cell(3, 3), 9);
        Due.is("0 is wet", x.cell(0, 5), 1);
    }

    private static void roofIsLost() {
        Due.says("a ROOF of another one is lost: nobody has it");
        for (int kind = 0; kind < 2; kind++) {
            FireWards x = city(4, "*.*#");
            x.company(7, 1, 1);
            x.company(7, 1, 1);
            x.send(0, 0);
            x.send(1, 2);
            x.hours(1);
            Due.is("roof", x.cell(0, 6), 0);
            Due.yes("another goal", kind == 0 ? x.send(0, 2) : x.pull(0, 3));
            Due.is("nobody has it", x.cell(0, 6), NONE);
            Due.is("another's stays", x.cell(2, 6), 1);
            Due.is("its wet stays", x.cell(0, 5), 1);
            Due.yes("and back", x.send(0, 0));
            Due.is("still nobody", x.cell(0, 6), NONE);
            x.hours(1);
            Due.is("given anew", x.cell(0, 6), 0);
            Due.no("its goal already", x.send(0, 0));
            Due.is("and kept", x.cell(0, 6), 0);
        }
    }

    private static void notBurning() {
        Due.says("False: it isn't BURNING, or is its GOAL already.");
        FireWards x = city(7, "*#...o.");
        x.house(2, 1, 0);
        x.house(4, 1, 0);
        x.company(7, 1, 3);
        x.light(2);
        x.pull(0, 4);
        x.hours(1);
        x.send(0, 0);
        int[] states = {1, 0, 2, NONE, 3, NONE, NONE};
        for (int cell = 0; cell < 7; cell++) {
            Due.is("state", x.cell(cell, 0), states[cell]);
            Due.no("cell " + cell, x.send(0, cell));
            Due.is("its goal stays", x.of(0, 3), 0);
        }
        x.pull(0, 1);
        Due.no("what it pulls down", x.send(0, 1));
        Due.is("pulls on", x.of(0, 4), 1);
    }

    private static void noSuchSend() {
        Due.says("NoSuchElementException: no such COMPANY, CELL.");
        FireWards x = city(3, "*.#");
        for (int companies = 0; companies <= 8; companies++) {
            for (int company : new int[] {MIN, -1, companies, 8, 9, MAX}) {
                Due.none("send " + company, () -> x.send(company, 0));
                Due.none("pull " + company, () -> x.pull(company, 2));
                Due.none("send " + company + ", no such cell", () -> x.send(company, 3));
                Due.none("pull " + company + ", no such cell", () -> x.pull(company, -1));
            }
            if (companies < 8) {
                x.company(7, 1, 1);
                Due.yes("send the last", x.send(companies, 0));
                Due.yes("the last pulls", x.pull(companies, 2));
            }
        }
        FireWards y = city(3, "*.#");
        y.company(7, 1, 1);
        for (int cell : new int[] {MIN, -1, 3, 4, 64, MAX}) {
            Due.none("send to " + cell, () -> y.send(0, cell));
            Due.none("pull at " + cell, () -> y.pull(0, cell));
        }
        Due.is("no goal", y.of(0, 3), NONE);
    }

    private static void pulls() {
        Due.says("Likewise to pull down a WHOLE HOUSE.");
        FireWards x = city(7, "*#...o#");
        x.house(2, 1, 0);
        x.house(4, 1, 0);
        x.company(7, 1, 3);
        x.light(2);
        x.pull(0, 4);
        x.hours(1);
        Due.yes("whole", x.pull(0, 6));
        int[] states = {1, 0, 2, NONE, 3, NONE, 0};
        for (int cell = 0; cell < 7; cell++) {
            if (cell == 1) {
                continue;
            }
            Due.is("state", x.cell(cell, 0), states[cell]);
            Due.no("cell " + cell, x.pull(0, cell));
            Due.is("its goal stays", x.of(0, 3), 6);
            Due.is("to be pulled down", x.of(0, 4), 1);
        }
        Due.yes("another whole one", x.pull(0, 1));
        Due.is("goal", x.of(0, 3), 1);
        x.send(0, 0);
        Due.no("the fire that it goes to", x.pull(0, 0));
        Due.is("goal", x.of(0, 3), 0);
        Due.is("to be put out", x.of(0, 4), 0);
        // Who is free again by its end may pull at the same place when a house is built anew.
        FireWards y = new FireWards(1, 0);
        y.house(0, 1, 0);
        y.company(0, 1, 1);
        y.pull(0, 0);
        y.hours(1);
        Due.no("pulled down", y.pull(0, 0));
        y.house(0, 1, 0);
        Due.yes("built anew", y.pull(0, 0));
    }

    private static void hours() {
        Due.says("n HOURS: which it is.");
        FireWards x = new FireWards(0, 0);
        int hour = 0;
        for (int n : new int[] {0, 1, 0, 2, 99, 100, 100, 50}) {
            hour += n;
            Due.is("hours " + n, x.hours(n), hour);
            Due.is("the hour", x.count(0), hour);
        }
        // Many hours are as many times one.
        FireWards one = city(4, "*###########");
        FireWards many = city(4, "*###########");
        one.company(0, 3, 7);
        many.company(0, 3, 7);
        for (int i = 0; i < 9; i++) {
            one.hours(1);
        }
        many.hours(9);
        Due.same("nine hours", Twins.told(one), Twins.told(many));
    }

    private static void notSoManyHours() {
        Due.says("IllegalArgumentException: n is not 0 to 100, or it would be above 2400.");
        FireWards x = new FireWards(0, 0);
        for (int n : new int[] {MIN, MIN + 1, -100, -1, 101, 102, 200, 2400, 2401, MAX - 1, MAX}) {
            Due.illegal("hours " + n, () -> x.hours(n));
            Due.is("the hour stays", x.count(0), 0);
        }
        for (int i = 1; i <= 23; i++) {
            x.hours(100);
        }
        x.hours(1);
        Due.illegal("2301 and 100", () -> x.hours(100));
        Due.is("the hour stays", x.count(0), 2301);
        Due.is("2301 and 99", x.hours(99), 2400);
        for (int n : new int[] {MIN, -1, 1, 2, 100, 101, MAX}) {
            Due.illegal("2400 and " + n, () -> x.hours(n));
            Due.is("the hour stays", x.count(0), 2400);
        }
        Due.is("2400 and 0", x.hours(0), 2400);
        // 2300 and 100 is just enough.
        FireWards y = new FireWards(0, 0);
        for (int i = 1; i <= 24; i++) {
            Due.is("a hundred", y.hours(100), 100 * i);
        }
        Due.illegal("one more", () -> y.hours(1));
        // All else goes on at the last hour.
        y.house(0, 1, 0);
        y.company(0, 1, 0);
        Due.is("a bell", y.light(0), 1);
    }
}
