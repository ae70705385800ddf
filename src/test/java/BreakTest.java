import java.util.Random;

/** Promises 15 and 16: breaks and breaker, against trying all sets of up to four houses. */
public final class BreakTest {
    public static void main(String[] args) {
        edges();
        kept();
        rowsLaidAnew();
        Random random = new Random(20261116);
        for (int i = 0; i < 2500; i++) {
            randomCity(random, i);
        }
        Due.end("BreakTest");
    }

    private static void edges() {
        FireWards x = new FireWards(4, 0);
        Due.none("no such cell", () -> x.breaks(5));
        Due.none("no such cell", () -> x.breaks(-1));
        Due.none("nothing kept", () -> x.breaker(0));
        Due.is("ground", x.breaks(0), FireWards.NONE);
        for (int cell = 0; cell < 5; cell++) {
            x.house(cell, 9, 0);
        }
        Due.is("no fire", x.breaks(4), 0);
        Due.none("of none", () -> x.breaker(0));
        x.light(0);
        Due.is("burning", x.breaks(0), FireWards.NONE);
        Due.is("beside a fire", x.breaks(1), FireWards.NONE);
        Due.is("one", x.breaks(4), 1);
        Due.is("the first", x.breaker(0), 1);
        Due.none("behind it", () -> x.breaker(1));
        Due.none("before it", () -> x.breaker(-1));
        x.company(0, 9, 3);
        x.pull(0, 2);
        x.hours(1);
        Due.is("cut off already", x.breaks(4), 0);
        Due.is("pulled down", x.breaks(2), FireWards.NONE);
    }

    private static void kept() {
        FireWards x = new FireWards(2, 2);
        for (int cell = 0; cell < 9; cell++) {
            x.house(cell, 9, 0);
        }
        x.light(0);
        Due.is("two", x.breaks(8), 2);
        Due.is("none, what was kept stays", x.breaks(1), FireWards.NONE);
        Due.is("none, what was kept stays", x.breaks(0), FireWards.NONE);
        Due.is("first", x.breaker(0), 1);
        Due.is("second", x.breaker(1), 3);
        x.hours(100);
        Due.is("kept after hours too", x.breaker(1), 3);
        // All around a told house in the middle of 5 by 5, with fires in all corners.
        FireWards y = new FireWards(4, 4);
        for (int cell = 0; cell < 25; cell++) {
            y.house(cell, 9, 0);
        }
        int[] corners = {0, 4, 20, 24};
        for (int corner : corners) {
            y.light(corner);
        }
        Due.is("four", y.breaks(12), 4);
        int[] due = {7, 11, 13, 17};
        for (int i = 0; i < 4; i++) {
            Due.is("around", y.breaker(i), due[i]);
        }
        Due.none("a fifth", () -> y.breaker(4));
    }

    /** Cities in which the rows that are found first must be laid anew for one more. */
    private static void rowsLaidAnew() {
        look(5, 6, 0x23f7d5e6L, 0x10000009L, 15, 5, 7, 23);
        look(6, 4, 0x5ff977L, 0x800008L, 13, 0, 14);
        look(5, 5, 0x1ef52eeL, 0x100400L, 18, 5, 21);
        look(5, 5, 0x173fdbfL, 0x880200L, 15, 0, 12, 22);
        look(6, 6, 0xdb5fe5fffL, 0x40000000L, 21, 6, 20);
    }

    private static void look(int w, int h, long whole, long fires, int told, int... due) {
        FireWards x = new FireWards(w - 1, h - 1);
        for (int cell = 0; cell < w * h; cell++) {
            if (((whole | fires) >>> cell & 1) != 0) {
                x.house(cell, 9, 0);
            }
            if ((fires >>> cell & 1) != 0) {
                x.light(cell);
            }
        }
        compare("laid anew", x, told, due);
        compare("tried", x, told, new Tries(x, w, h).fewest(told));
    }

    private static void compare(String city, FireWards x, int told, int[] due) {
        int got = x.breaks(told);
        Due.is(city + " breaks(" + told + ")", got, due == null ? FireWards.NONE : due.length);
        for (int j = 0; due != null && j < due.length && got == due.length; j++) {
            Due.is(city + " breaker(" + j + ")", x.breaker(j), due[j]);
        }
    }

    private static void randomCity(Random random, int number) {
        int w = 1 + random.nextInt(8);
        int h = 1 + random.nextInt(8);
        FireWards x = new FireWards(w - 1, h - 1);
        int percent = 55 + random.nextInt(46);
        for (int cell = 0; cell < w * h; cell++) {
            if (random.nextInt(100) < percent) {
                x.house(cell, 1 + random.nextInt(9), 0);
            }
        }
        int fires = 1 + random.nextInt(6);
        for (int i = 0; i < fires; i++) {
            x.light(random.nextInt(w * h));
        }
        Tries tries = new Tries(x, w, h);
        for (int i = 0; i < 6; i++) {
            int told = random.nextInt(w * h);
            compare("city " + number, x, told, tries.fewest(told));
        }
    }

    /** Tries all sets of houses, as bits of a long, in the order of rows. */
    private static final class Tries {
        private final int w;
        private final int cells;
        private long whole;
        private long fires;
        private long left;
        private long right;

        Tries(FireWards x, int w, int h) {
            this.w = w;
            cells = w * h;
            for (int cell = 0; cell < cells; cell++) {
                long bit = 1L << cell;
                whole |= x.cell(cell, 0) == 0 ? bit : 0;
                fires |= x.cell(cell, 0) == 1 ? bit : 0;
                left |= cell % w == 0 ? bit : 0;
                right |= cell % w == w - 1 ? bit : 0;
            }
        }

        /** The first set of the fewest; null if there is none. */
        int[] fewest(int told) {
            if ((whole >>> told & 1) == 0) {
                return null;
            }
            for (int size = 0; size <= 4; size++) {
                int[] set = new int[size];
                if (holds(whole, told, set, 0, 0)) {
                    return set;
                }
            }
            return null;
        }

        private boolean holds(long standing, int told, int[] set, int at, int from) {
            if (at == set.length) {
                return !comes(standing, told);
            }
            for (int cell = from; cell < cells; cell++) {
                if ((standing >>> cell & 1) != 0 && cell != told) {
                    set[at] = cell;
                    if (holds(standing & ~(1L << cell), told, set, at + 1, cell + 1)) {
                        return true;
                    }
                }
            }
            return false;
        }

        private boolean comes(long standing, int told) {
            long before = 0;
            long now = beside(fires) & standing;
            while (now != before) {
                before = now;
                now |= beside(now) & standing;
            }
            return (now >>> told & 1) != 0;
        }

        private long beside(long set) {
            return set << w | set >>> w | (set & ~right) << 1 | (set & ~left) >>> 1;
        }
    }
}
