/**
 * The boundary cases of BREAKS, a method for each sentence that names one: "Terms" part 4 and
 * promises 15 and 16. All sets are tried in BreakTest.
 */
public final class BoundsBreakTest {
    private static final int NONE = FireWards.NONE;
    private static final int MIN = Integer.MIN_VALUE;
    private static final int MAX = Integer.MAX_VALUE;

    public static void main(String[] args) {
        wholeHouses();
        toldNotAmong();
        noRow();
        besideTheNext();
        fewest();
        firstAsARow();
        besideTheTold();
        kept();
        keptStays();
        keptThroughOtherCalls();
        noneOfWhatIsKept();
        noSuchCell();
        Due.end("BoundsBreakTest");
    }

    /** '#' a whole house, '*' a burning one, '.' ground, 'a' ashes, 'd' pulled down, 'o' a well. */
    private static FireWards city(int wide, String cells) {
        FireWards x = new FireWards(wide - 1, cells.length() / wide - 1);
        int companies = 0;
        for (int cell = 0; cell < cells.length(); cell++) {
            char c = cells.charAt(cell);
            if (c == 'a' || c == 'd') {
                x.house(cell, 1, 0);
            }
            if (c == 'a') {
                x.light(cell);
            } else if (c == 'd') {
                x.company(7, 1, cell % wide > 0 ? cell - 1 : cell + 1);
                x.pull(companies, cell);
                companies++;
            }
        }
        x.hours(1);
        for (int cell = 0; cell < cells.length(); cell++) {
            char c = cells.charAt(cell);
            if (c == 'o') {
                x.well(cell, true);
            } else if (c == '#' || c == '*') {
                x.house(cell, 9, 0);
            }
        }
        for (int cell = 0; cell < cells.length(); cell++) {
            if (cells.charAt(cell) == '*') {
                x.light(cell);
            }
        }
        return x;
    }

    private static void breaks(int wide, String cells, int told, int... due) {
        looks(cells, city(wide, cells), told, due);
    }

    private static void looks(String cells, FireWards x, int told, int... due) {
        int got = x.breaks(told);
        Due.is(cells + " breaks(" + told + ")", got, due.length);
        for (int i = 0; i < due.length && got == due.length; i++) {
            Due.is(cells + " breaker(" + i + ")", x.breaker(i), due[i]);
        }
        Due.none(cells + " breaker(" + due.length + ")", () -> x.breaker(due.length));
    }

    private static void none(int wide, String cells, int told) {
        Due.is(cells + " breaks(" + told + ")", city(wide, cells).breaks(told), NONE);
    }

    private static void wholeHouses() {
        Due.says("BREAK for a WHOLE HOUSE t: a set of WHOLE HOUSES, t not among them");
        none(5, "*#.ao", 0);
        none(5, "*#.ao", 2);
        none(5, "*#.ao", 3);
        none(5, "*#.ao", 4);
        none(4, ".d#*", 1);
        // Nothing but whole houses leads the fire on.
        breaks(3, "*.#", 2);
        breaks(3, "*o#", 2);
        breaks(3, "*a#", 2);
        breaks(3, "*d#", 2);
        breaks(3, "*##", 2, 1);
        breaks(4, "*#.#", 3);
    }

    private static void toldNotAmong() {
        Due.says("a set of WHOLE HOUSES, t not among them");
        breaks(3, "*##", 2, 1);
        breaks(3, "##*", 0, 1);
        breaks(1, "*##", 2, 1);
        breaks(1, "##*", 0, 1);
        breaks(4, "*###", 3, 1);
        breaks(4, "*###", 2, 1);
    }

    private static void noRow() {
        Due.says("if they were PULLED DOWN, no row of WHOLE HOUSES, each BESIDE the next, would lead from one BESIDE a "
            + "BURNING one to t.");
        breaks(1, "#", 0);
        breaks(2, "##", 0);
        breaks(8, "#".repeat(64), 0);
        breaks(8, "#".repeat(64), 63);
        breaks(8, "*" + "#".repeat(63), 63, 1, 8);
        breaks(8, "#".repeat(63) + "*", 0, 1, 8);
        // A fire that is cut off already.
        breaks(4, "*#.#", 3);
        breaks(3, "*#." + "##." + "..#", 8);
        // Fires on both sides.
        breaks(5, "*###*", 2, 1, 3);
        // A fire in the way is no way, but where it burns it comes from.
        breaks(5, "*#*##", 4, 3);
    }

    private static void besideTheNext() {
        Due.says("each BESIDE the next");
        breaks(2, "*#" + "##", 3, 1, 2);
        breaks(3, "*.." + ".#." + "..#", 8);
        breaks(4, "*..#" + "#...", 3);
        breaks(4, "...*" + "#...", 4);
        breaks(4, "..*#" + "##..", 5);
        breaks(4, "..*#" + "...#" + "##..", 9);
    }

    private static void fewest() {
        Due.says("The one of fewest");
        // One in the neck, though the fire is broad on one side and the told one has three beside it.
        breaks(5, "*#.##" + "*####" + "*#.##", 9, 6);
        breaks(6, "*##.##" + "*#####" + "*##.##", 11, 8);
        breaks(3, "*##" + "###" + "##.", 2, 1, 3);
        breaks(5, "*.#.*" + ".###." + "*.#.*", 7);
        breaks(5, "*###*" + "#####" + "#####" + "#####" + "*###*", 12, 7, 11, 13, 17);
        breaks(3, "#*#" + "###" + "###", 7, 0, 2, 4);
        breaks(3, "*##" + "###" + "##*", 2, 1, 5);
        breaks(3, "###" + "*##" + "###", 5, 0, 4, 6);
    }

    private static void firstAsARow() {
        Due.says("of like ones the first as a row of their CELLS, rising.");
        breaks(8, "*#######", 7, 1);
        breaks(8, "#######*", 0, 1);
        breaks(8, "###*####", 0, 1);
        breaks(8, "###*####", 7, 4);
        breaks(1, "#######*", 0, 1);
        breaks(2, "*#" + "##" + "##" + "##", 7, 1, 2);
        breaks(2, "##" + "##" + "##" + "#*", 0, 1, 2);
        breaks(4, "##.*" + "###*" + "....", 4, 5);
        // 14 must be one; of 0, 1, 2, 6, 12 the first is the other, though 2 and 15 would be as few.
        breaks(6, "###*##" + "#.#..#" + "######" + "###.#*", 13, 0, 14);
        breaks(4, "####" + "#..#" + "#..*", 0, 1);
        breaks(4, "*###" + "#..#" + "####", 11, 1, 4);
    }

    private static void besideTheTold() {
        Due.says("There is none if a BURNING HOUSE is BESIDE t.");
        int[] beside = {1, 3, 5, 7};
        for (int fire = 0; fire < 9; fire++) {
            char[] cells = "#########".toCharArray();
            cells[fire] = '*';
            boolean isBeside = false;
            for (int b : beside) {
                isBeside = isBeside || b == fire;
            }
            FireWards x = city(3, new String(cells));
            int due = isBeside || fire == 4 ? NONE : 2;
            Due.is("fire at " + fire, x.breaks(4), due);
        }
        none(2, "*#", 1);
        none(2, "#*", 0);
        none(1, "*#", 1);
        none(3, "*#*", 1);
        // The end of one row is not beside the begin of the next.
        breaks(3, "..*" + "#..", 3);
        breaks(3, "..#" + "*..", 2);
    }

    private static void kept() {
        Due.says("BREAK: how many HOUSES; it is kept for breaker().");
        FireWards x = city(5, "*####");
        looks("row", x, 4, 1);
        looks("row", x, 3, 1);
        FireWards y = city(3, "*##" + "###" + "###");
        looks("square", y, 8, 1, 3);
        looks("square", y, 2, 1, 3);
        FireWards w = city(7, "###*###");
        looks("both ends", w, 0, 1);
        looks("both ends", w, 6, 4);
        looks("both ends", w, 1, 2);
        // A later one takes its place, also one of none.
        FireWards z = city(6, "*####.");
        looks("row", z, 4, 1);
        z.house(5, 9, 0);
        z.company(7, 9, 1);
        z.pull(0, 2);
        z.hours(1);
        looks("cut", z, 5);
        Due.none("nothing is kept", () -> z.breaker(0));
    }

    private static void keptStays() {
        Due.says("NONE (what was kept stays): it is no WHOLE HOUSE, or there is none.");
        FireWards x = city(7, "*###oa.");
        Due.none("nothing is kept", () -> x.breaker(0));
        Due.is("nothing yet", x.breaks(1), NONE);
        Due.none("nothing is kept", () -> x.breaker(0));
        Due.is("one", x.breaks(3), 1);
        for (int told : new int[] {0, 1, 4, 5, 6}) {
            Due.is("none for " + told, x.breaks(told), NONE);
            Due.is("what was kept stays", x.breaker(0), 1);
            Due.none("no more", () -> x.breaker(1));
        }
        Due.none("no such cell", () -> x.breaks(7));
        Due.is("what was kept stays", x.breaker(0), 1);
    }

    private static void keptThroughOtherCalls() {
        Due.says("it is kept for breaker()");
        FireWards x = city(3, "*##" + "###" + "###");
        x.breaks(8);
        x.company(7, 9, 2);
        x.pull(0, 1);
        x.hours(100);
        x.house(0, 1, 0);
        x.light(0);
        Due.is("first", x.breaker(0), 1);
        Due.is("second", x.breaker(1), 3);
        Due.is("and asked again", x.breaker(0), 1);
    }

    private static void noneOfWhatIsKept() {
        Due.says("The i-th CELL of what is kept. NoSuchElementException: there is none.");
        FireWards x = city(5, "*###*" + "#####" + "#####" + "#####" + "*###*");
        int[] wrong = {MIN, -64, -2, -1, 4, 5, 64, MAX};
        for (int i : new int[] {MIN, -1, 0, 1, MAX}) {
            Due.none("nothing is kept " + i, () -> x.breaker(i));
        }
        Due.is("four", x.breaks(12), 4);
        int[] cells = {7, 11, 13, 17};
        for (int i = 0; i < 4; i++) {
            Due.is("breaker " + i, x.breaker(i), cells[i]);
        }
        for (int i : wrong) {
            Due.none("breaker " + i, () -> x.breaker(i));
        }
    }

    private static void noSuchCell() {
        Due.says("`int breaks(int cell) throws NoSuchElementException`");
        FireWards x = city(3, "*##" + "###");
        for (int cell : new int[] {MIN, -1, 6, 7, 64, MAX}) {
            Due.none("breaks " + cell, () -> x.breaks(cell));
        }
        Due.is("the last", x.breaks(5), 2);
    }
}
