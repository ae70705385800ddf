import java.util.Random;

/** "What it is": the document's first sentence, clause by clause, in runs through the whole class. */
public final class StoryTest {
    private static final int NONE = FireWards.NONE;

    public static void main(String[] args) {
        warmUp();
        bellsCall();
        whoComesFirst();
        water();
        pulledDownAhead();
        fewestThatMustBe();
        builtUpAgain();
        steppedByHours();
        Due.end("StoryTest");
    }

    /** A city of one row, a house of that wood on each cell; wood 0 is ground. */
    private static FireWards row(int... wood) {
        FireWards x = new FireWards(wood.length - 1, 0);
        for (int cell = 0; cell < wood.length; cell++) {
            x.house(cell, wood[cell], 0);
        }
        return x;
    }

    private static void warmUp() {
        Due.says("houses on squares warm up beside burning ones and before the wind");
        FireWards x = row(9, 9, 9, 9, 9);
        x.wind(2);
        x.light(2);
        int[][] warmth = {{0, 1, 0, 3, 0}, {0, 2, 0, 6, 0}, {0, 3, 0, 6, 3}, {0, 4, 0, 6, 6}, {0, 5, 0, 6, 6}};
        int[] burning = {1, 2, 2, 3, 4};
        for (int hour = 0; hour < warmth.length; hour++) {
            x.hours(1);
            for (int cell = 0; cell < 5; cell++) {
                Due.is("warmth of " + cell + " after hour " + hour, x.cell(cell, 4), warmth[hour][cell]);
            }
            Due.is("burning after hour " + hour, x.count(1), burning[hour]);
        }
    }

    private static void bellsCall() {
        Due.says("bells call companies by a law in force");
        FireWards x = row(9, 9, 9, 9);
        x.company(0, 1, 0);
        x.company(1, 1, 3);
        Due.is("a law from the next day on", Due.law(x, "call own=1;", 1), 0);
        x.light(0);
        Due.is("its own ward without a law", x.of(0, 3), 0);
        Due.is("not the other", x.of(1, 3), NONE);
        x.hours(24);
        Due.is("the law is in force", x.count(9), 0);
        x.house(3, 9, 0);
        Due.is("called by it", x.light(3), 1);
        Due.is("by ward 1", x.of(1, 3), 3);
        Due.is("not by ward 0", x.of(0, 3), NONE);
    }

    private static void whoComesFirst() {
        Due.says("who comes first has the roof and the pay, others quarrel");
        FireWards x = row(0, 9, 0, 0, 0, 0);
        int late = x.company(0, 9, 5);
        int second = x.company(0, 4, 2);
        int third = x.company(0, 4, 0);
        x.light(1);
        x.hours(1);
        Due.is("the roof", x.cell(1, 6), second);
        Due.is("beside it in that hour", x.of(third, 6), 1);
        x.hours(3);
        Due.is("there now, with a lesser number", x.of(late, 2), 2);
        Due.is("the roof stays", x.cell(1, 6), second);
        Due.is("no quarrel about what is given", x.of(late, 6), 0);
        x.hours(1);
        Due.is("put out", x.cell(1, 0), 0);
        Due.is("paid", x.of(second, 5), 1);
        Due.is("not paid", x.of(third, 5) + x.of(late, 5), 0);
        Due.is("quarrels of all", x.count(7), 1);
    }

    private static void water() {
        Due.says("water by hand and wells");
        FireWards x = row(9, 0, 0, 0);
        x.company(0, 3, 1);
        x.light(0);
        x.hours(1);
        Due.is("by hand", x.cell(0, 5), 3);
        x.well(3, true);
        x.hours(1);
        Due.is("and with a well", x.cell(0, 5), 9);
        x.well(3, false);
        x.hours(1);
        Due.is("and by hand", x.cell(0, 5), 12);
    }

    private static void pulledDownAhead() {
        Due.says("houses pulled down ahead of the fire");
        FireWards burns = row(9, 9, 2, 9);
        burns.light(0);
        burns.hours(30);
        Due.is("all but the last, which the small one is too small to set on fire", burns.count(3), 3);
        FireWards stays = row(9, 9, 9, 9);
        stays.company(1, 5, 3);
        stays.light(0);
        Due.yes("it is told to", stays.pull(0, 1));
        stays.hours(30);
        Due.is("what burns down", stays.count(3), 1);
        Due.is("pulled down", stays.cell(1, 0), 3);
        Due.is("behind it", stays.count(2), 2);
        Due.is("cold", stays.cell(2, 4), 0);
    }

    /** What is told to be pulled down is left out of a second city, in which all may burn then. */
    private static void fewestThatMustBe() {
        Due.says("the fewest that must be so that it can't come to a told one");
        Random random = new Random(1116);
        int broken = 0;
        for (int i = 0; i < 400; i++) {
            int size = 64;
            boolean[] built = new boolean[size];
            for (int cell = 0; cell < size; cell++) {
                built[cell] = random.nextInt(10) > 0;
            }
            int fire = random.nextInt(size);
            int told = random.nextInt(size);
            built[fire] = true;
            FireWards x = fires(built, fire);
            int fewest = x.breaks(told);
            if (fewest == NONE) {
                continue;
            }
            broken += fewest;
            FireWards without = fires(built, fire);
            without.hours(100);
            Due.is("city " + i + " burns, if nothing has to be pulled down",
                without.cell(told, 0), fewest == 0 ? 0 : 2);
            for (int j = 0; j < fewest; j++) {
                built[x.breaker(j)] = false;
            }
            FireWards with = fires(built, fire);
            with.hours(100);
            Due.is("city " + i + " is safe behind the break", with.cell(told, 0), 0);
        }
        Due.yes("some had a break", broken > 100);
    }

    /** 8 by 8, wood 9, one fire; no wind, so that each whole house beside a fire is set on fire. */
    private static FireWards fires(boolean[] built, int fire) {
        FireWards x = new FireWards(7, 7);
        for (int cell = 0; cell < built.length; cell++) {
            if (built[cell]) {
                x.house(cell, 9, 0);
            }
        }
        x.light(fire);
        return x;
    }

    private static void builtUpAgain() {
        Due.says("ashes built up again");
        FireWards x = row(1, 9);
        x.light(0);
        x.hours(1);
        Due.is("ashes", x.cell(0, 0), 2);
        Due.yes("built", x.house(0, 7, 5));
        int[] due = {0, 7, 5, 7, 0, 0, NONE, 0};
        for (int what = 0; what < due.length; what++) {
            Due.is("what " + what, x.cell(0, what), due[what]);
        }
        Due.is("and on fire again", x.light(0), 0);
    }

    private static void steppedByHours() {
        Due.says("each fire is stepped by hours.");
        FireWards one = row(9, 8, 7, 6, 5, 4, 3, 2);
        FireWards many = row(9, 8, 7, 6, 5, 4, 3, 2);
        one.wind(2);
        many.wind(2);
        one.light(0);
        many.light(0);
        for (int i = 0; i < 20; i++) {
            one.hours(1);
        }
        Due.is("the hour", many.hours(20), 20);
        for (int cell = 0; cell < 8; cell++) {
            for (int what = 0; what < 8; what++) {
                Due.is("cell " + cell + " " + what, one.cell(cell, what), many.cell(cell, what));
            }
        }
        Due.is("the fire went on", one.cell(2, 0), 2);
    }
}
