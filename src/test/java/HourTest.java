/** Promise 12: hours, and the parts (a) to (g) of one. */
public final class HourTest {
    public static void main(String[] args) {
        limits();
        going();
        noWay();
        onTheGoal();
        quarrels();
        water();
        putOut();
        warmthOfPutOut();
        pulledToOne();
        putOutByNobody();
        burningDown();
        warmth();
        bells();
        pullingThatBurns();
        Due.end("HourTest");
    }

    private static void limits() {
        FireWards x = new FireWards(0, 0);
        Due.is("none", x.hours(0), 0);
        Due.illegal("-1", () -> x.hours(-1));
        Due.illegal("101", () -> x.hours(101));
        Due.illegal("most", () -> x.hours(Integer.MAX_VALUE));
        for (int i = 1; i <= 23; i++) {
            Due.is("a hundred", x.hours(100), 100 * i);
        }
        Due.is("99", x.hours(99), 2399);
        Due.illegal("to 2401", () -> x.hours(2));
        Due.is("to 2400", x.hours(1), 2400);
        Due.illegal("to 2401", () -> x.hours(1));
        Due.is("none", x.hours(0), 2400);
        Due.is("count", x.count(0), 2400);
    }

    private static void going() {
        // 3 by 3: from the corner 0 to the goal 8 all ways are as long; the least cell is 1.
        FireWards x = new FireWards(2, 2);
        x.house(8, 9, 0);
        x.company(0, 1, 0);
        x.light(8);
        x.hours(1);
        Due.is("to the least", x.of(0, 2), 1);
        x.hours(1);
        Due.is("to the least", x.of(0, 2), 2);
        x.hours(1);
        Due.is("beside", x.of(0, 2), 5);
        x.hours(1);
        Due.is("stays", x.of(0, 2), 5);
        // Upwards and to the left too.
        FireWards u = new FireWards(1, 3);
        u.house(0, 9, 0);
        u.company(0, 1, 7);
        u.light(0);
        u.hours(1);
        Due.is("up", u.of(0, 2), 5);
        u.hours(1);
        Due.is("up", u.of(0, 2), 3);
        u.hours(1);
        Due.is("up", u.of(0, 2), 1);
        // Round a burning house: 1 burns, so the way from 0 to 2 goes by 3, 4.
        FireWards y = new FireWards(2, 1);
        y.house(1, 9, 7);
        y.house(2, 9, 0);
        y.company(0, 1, 0);
        y.light(1);
        y.light(2);
        y.hours(1);
        Due.is("round", y.of(0, 2), 3);
        y.hours(1);
        Due.is("round", y.of(0, 2), 4);
        y.hours(1);
        Due.is("beside", y.of(0, 2), 5);
        // Over whole houses, wells and ashes it goes.
        FireWards z = new FireWards(4, 0);
        z.house(1, 9, 1);
        z.well(2, true);
        z.house(4, 9, 0);
        z.company(0, 1, 0);
        z.light(4);
        z.hours(3);
        Due.is("over a house and a well", z.of(0, 2), 3);
        Due.is("in time", z.cell(4, 6), 0);
    }

    private static void noWay() {
        FireWards x = new FireWards(3, 0);
        x.house(1, 3, 7);
        x.house(3, 9, 0);
        x.company(0, 1, 0);
        x.light(1);
        x.light(3);
        x.hours(2);
        Due.is("stays", x.of(0, 2), 0);
        x.hours(1);
        Due.is("ashes", x.cell(1, 0), 2);
        Due.is("still stays", x.of(0, 2), 0);
        x.hours(1);
        Due.is("over the ashes", x.of(0, 2), 1);
        // Out of a burning house it goes, back into it never.
        FireWards y = new FireWards(4, 0);
        y.house(1, 9, 7);
        y.house(4, 9, 0);
        y.company(0, 1, 1);
        y.light(1);
        y.light(4);
        y.hours(1);
        Due.is("out of the fire", y.of(0, 2), 2);
    }

    private static void onTheGoal() {
        FireWards x = new FireWards(2, 2);
        x.house(4, 9, 0);
        x.house(1, 9, 7);
        x.company(0, 2, 4);
        x.light(1);
        x.light(4);
        x.hours(1);
        Due.is("off it, not into a burning one", x.of(0, 2), 3);
        Due.is("and to work at once", x.cell(4, 5), 2);
        FireWards y = new FireWards(0, 0);
        y.house(0, 2, 0);
        y.company(0, 9, 0);
        y.pull(0, 0);
        y.hours(5);
        Due.is("nowhere to go", y.of(0, 2), 0);
        Due.is("so no work", y.cell(0, 3), 2);
        // The goal stands in the way: behind it is nothing that leads elsewhere.
        FireWards z = new FireWards(0, 3);
        z.house(2, 9, 0);
        z.company(0, 1, 0);
        z.light(2);
        z.hours(1);
        Due.is("beside", z.of(0, 2), 1);
    }

    private static void quarrels() {
        FireWards x = new FireWards(2, 2);
        x.house(4, 9, 0);
        x.company(0, 1, 0);
        x.company(0, 1, 3);
        x.company(0, 1, 5);
        x.company(1, 1, 5);
        x.light(4);
        x.hours(1);
        Due.is("the least number beside", x.cell(4, 6), 0);
        Due.is("quarrels", x.of(1, 6), 1);
        Due.is("quarrels", x.of(2, 6), 1);
        Due.is("no goal, no quarrel", x.of(3, 6), 0);
        Due.is("all", x.count(7), 2);
        x.hours(1);
        Due.is("not again", x.count(7), 2);
        // Who comes first has it, though a lesser number comes later.
        FireWards y = new FireWards(3, 0);
        y.house(2, 9, 0);
        y.company(0, 1, 0);
        y.company(0, 1, 3);
        y.hours(0);
        y.light(2);
        y.hours(1);
        Due.is("both are there", y.cell(2, 6), 0);
        FireWards z = new FireWards(4, 0);
        z.house(3, 9, 0);
        z.company(0, 1, 0);
        z.company(0, 1, 4);
        z.light(3);
        z.hours(1);
        Due.is("the first there", z.cell(3, 6), 1);
        z.hours(1);
        Due.is("keeps it", z.cell(3, 6), 1);
        Due.is("without a quarrel", z.count(7), 0);
    }

    private static int wetWithWellAt(int cell) {
        FireWards x = new FireWards(4, 1);
        x.house(1, 9, 0);
        x.company(0, 3, 2);
        if (cell != FireWards.NONE) {
            x.well(cell, true);
        }
        x.light(1);
        x.hours(1);
        return x.cell(1, 5);
    }

    private static void water() {
        // 5 by 2, the company on 2.
        Due.is("no well", wetWithWellAt(FireWards.NONE), 3);
        Due.is("well under it", wetWithWellAt(2), 6);
        Due.is("2 far", wetWithWellAt(0), 6);
        Due.is("2 far", wetWithWellAt(4), 6);
        Due.is("2 far", wetWithWellAt(8), 6);
        Due.is("3 far", wetWithWellAt(9), 3);
        Due.is("3 far", wetWithWellAt(5), 3);
    }

    private static void putOut() {
        // Wood 3, 4 men: wet 4 and 12, then 8 and 8: it is put out in the second hour.
        FireWards x = new FireWards(1, 0);
        x.house(0, 3, 0);
        x.company(0, 4, 1);
        x.company(0, 4, 1);
        x.light(0);
        x.hours(1);
        Due.is("still burning", x.cell(0, 0), 1);
        Due.is("fuel", x.cell(0, 3), 2);
        x.hours(1);
        Due.is("whole", x.cell(0, 0), 0);
        Due.is("fuel as it was", x.cell(0, 3), 2);
        Due.is("wood", x.cell(0, 1), 3);
        Due.is("wet", x.cell(0, 5), 0);
        Due.is("warmth", x.cell(0, 4), 0);
        Due.is("roof", x.cell(0, 6), FireWards.NONE);
        Due.is("goal", x.of(0, 3), FireWards.NONE);
        Due.is("goal of the other", x.of(1, 3), FireWards.NONE);
        Due.is("paid without a law", x.of(0, 5), 1);
        Due.is("put out", x.of(0, 7), 1);
        Due.is("the other is not paid", x.of(1, 5), 0);
        Due.is("nor has put it out", x.of(1, 7), 0);
    }

    private static void warmthOfPutOut() {
        // Cell 0 warms up to 5 beside cell 1, which is ashes when cell 0 is put out.
        FireWards x = new FireWards(2, 1);
        x.house(0, 3, 0);
        x.house(1, 5, 1);
        x.company(0, 6, 3);
        x.light(1);
        x.hours(4);
        x.light(0);
        Due.is("its warmth stays as it is lit", x.cell(0, 4), 4);
        x.hours(1);
        Due.is("and as it burns", x.cell(0, 4), 4);
        Due.is("ashes", x.cell(1, 0), 2);
        x.hours(1);
        Due.is("put out", x.cell(0, 0), 0);
        Due.is("cold", x.cell(0, 4), 0);
    }

    private static void pulledToOne() {
        FireWards x = new FireWards(1, 0);
        x.house(0, 4, 0);
        x.company(0, 3, 1);
        x.pull(0, 0);
        x.hours(1);
        Due.is("one is left", x.cell(0, 3), 1);
        Due.is("it stands", x.cell(0, 0), 0);
        Due.is("and is pulled at", x.of(0, 4), 1);
        x.hours(1);
        Due.is("none, not below", x.cell(0, 3), 0);
        Due.is("pulled down", x.cell(0, 0), 3);
    }

    private static void putOutByNobody() {
        // 9 men wet a house of wood 5 by 9 and leave: fuel 4, 3, then 9 is not 12, 8 is.
        FireWards x = new FireWards(3, 0);
        x.house(0, 5, 0);
        x.house(3, 9, 1);
        x.company(0, 9, 1);
        x.light(0);
        x.hours(1);
        x.pull(0, 3);
        x.hours(2);
        Due.is("burning", x.cell(0, 0), 1);
        Due.is("fuel", x.cell(0, 3), 2);
        Due.is("wet", x.cell(0, 5), 9);
        x.hours(1);
        Due.is("whole", x.cell(0, 0), 0);
        Due.is("nobody is paid", x.of(0, 5), 0);
        Due.is("nobody has put it out", x.of(0, 7), 0);
    }

    private static void burningDown() {
        FireWards x = new FireWards(1, 0);
        x.house(0, 2, 0);
        x.company(0, 1, 1);
        x.company(0, 1, 1);
        x.light(0);
        x.hours(1);
        Due.is("fuel", x.cell(0, 3), 1);
        Due.is("roof", x.cell(0, 6), 0);
        x.hours(1);
        Due.is("ashes", x.cell(0, 0), 2);
        Due.is("fuel", x.cell(0, 3), 0);
        Due.is("wet stays", x.cell(0, 5), 2);
        Due.is("roof", x.cell(0, 6), FireWards.NONE);
        Due.is("goal", x.of(0, 3), FireWards.NONE);
        Due.is("goal of the other", x.of(1, 3), FireWards.NONE);
        Due.is("not paid", x.of(0, 5), 0);
    }

    private static void warmth() {
        // 0 burns, 1 beside it, 2 beside 1: warmth 1, 2, 3, 4, then it burns at 5.
        FireWards x = new FireWards(2, 0);
        x.house(0, 9, 0);
        x.house(1, 9, 0);
        x.house(2, 9, 0);
        x.light(0);
        x.hours(4);
        Due.is("warmth", x.cell(1, 4), 4);
        Due.is("whole", x.cell(1, 0), 0);
        x.hours(1);
        Due.is("warmth", x.cell(1, 4), 5);
        Due.is("burning", x.cell(1, 0), 1);
        Due.is("fuel as it was", x.cell(1, 3), 9);
        Due.is("warms nothing yet", x.cell(2, 4), 0);
        x.hours(1);
        Due.is("warms now", x.cell(2, 4), 1);
        Due.is("a burning one's warmth stays", x.cell(1, 4), 5);
        // Two burning ones beside it, one before the wind: 2 + 4 - 1 at once.
        FireWards y = new FireWards(2, 0);
        y.house(0, 1, 0);
        y.house(1, 9, 0);
        y.house(2, 2, 0);
        y.wind(2);
        y.light(2);
        y.hours(1);
        y.wind(4);
        y.light(0);
        Due.is("against the wind", y.cell(1, 4), 1);
        y.hours(1);
        Due.is("both are ashes", y.count(3), 2);
        Due.is("cools", y.cell(1, 4), 0);
        y.hours(1);
        Due.is("not below 0", y.cell(1, 4), 0);
        FireWards z = new FireWards(2, 0);
        z.house(0, 9, 0);
        z.house(1, 9, 0);
        z.house(2, 9, 0);
        z.wind(4);
        z.light(0);
        z.light(2);
        z.hours(1);
        Due.is("2 and 4 less 1", z.cell(1, 4), 5);
        Due.is("burning", z.cell(1, 0), 1);
    }

    private static void bells() {
        // 1 and 3 begin to burn in one hour; each company takes the first that it is called to.
        FireWards x = new FireWards(4, 0);
        for (int cell = 0; cell < 5; cell++) {
            x.house(cell, 9, cell);
        }
        x.company(3, 1, 0);
        x.company(1, 1, 0);
        x.company(5, 1, 0);
        x.light(2);
        x.hours(4);
        Due.is("no bell yet", x.of(0, 3), FireWards.NONE);
        x.hours(1);
        Due.is("burning", x.count(1), 3);
        Due.is("called", x.of(0, 3), 3);
        Due.is("called", x.of(1, 3), 1);
        Due.is("not called", x.of(2, 3), FireWards.NONE);
        // By a law: to all, so the first bell has them all; all three fires count, hour 4 not 5.
        FireWards y = new FireWards(4, 0);
        for (int cell = 0; cell < 5; cell++) {
            y.house(cell, 9, cell);
        }
        y.company(3, 1, 0);
        y.company(1, 1, 0);
        y.light(2);
        Due.law(y, "call fires=3 and hour=4;", 0);
        y.hours(5);
        Due.is("the first bell", y.of(0, 3), 1);
        Due.is("the first bell", y.of(1, 3), 1);
        // A bell that rang is not rung again.
        FireWards z = new FireWards(1, 0);
        z.house(0, 9, 0);
        z.light(0);
        z.company(0, 1, 1);
        z.hours(1);
        Due.is("too late", z.of(0, 3), FireWards.NONE);
    }

    private static void pullingThatBurns() {
        // The company pulls at 3 from afar when 1 and 3 begin to burn: it is free ahead of all bells.
        FireWards x = new FireWards(7, 0);
        for (int cell = 0; cell < 5; cell++) {
            x.house(cell, 9, cell == 1 ? 1 : 0);
        }
        x.light(2);
        x.hours(4);
        x.company(1, 1, 7);
        x.company(2, 1, 7);
        x.pull(0, 3);
        x.pull(1, 3);
        x.hours(1);
        Due.is("both burn", x.count(1), 3);
        Due.is("called to the first", x.of(0, 3), 1);
        Due.is("to put it out", x.of(0, 4), 0);
        Due.is("no goal any more", x.of(1, 3), FireWards.NONE);
        Due.is("nothing to pull", x.of(1, 4), 0);
        // Pulled at, it burns with what is left.
        FireWards y = new FireWards(3, 0);
        y.house(1, 9, 0);
        y.company(0, 2, 0);
        y.pull(0, 1);
        y.hours(2);
        y.light(1);
        Due.is("what is left", y.cell(1, 3), 5);
    }
}
