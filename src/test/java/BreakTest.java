import java.util.Random;

/** Promises 15 and 16: breaks and breaker, against trying all sets of up to four houses. */
public final class BreakTest {
    public static void main(String[] args) {
        edges();
        kept();
        Random random = new Random(20261116);
        for (int i = 0; i < 400; i++) {
            randomCity(random, i);
        }
        Due.end("BreakTest");
    }

    private static void edges() {
        FireWards x = new FireWards(4, 0);
        Due.none("no such cell", () -> x.breaks(5));
        Due.none("no such cell", () -> x.breaks(-1));
        Due.none("nothing kept", () -> x.breaker(0));
        Due.is("ground", x.breaks(0), FireWards.NONE);
        for (int cell = 0; cell < 5; cell++) {
            x.house(cell, 9, 0);
        }
        Due.is("no fire", x.breaks(4), 0);
        Due.none("of none", () -> x.breaker(0));
        x.light(0);
        Due.is("burning", x.breaks(0), FireWards.NONE);
        Due.is("beside a fire", x.breaks(1), FireWards.NONE);
        Due.is("one", x.breaks(4), 1);
        Due.is("the first", x.breaker(0), 1);
        Due.none("behind it", () -> x.breaker(1));
        Due.none("before it", () -> x.breaker(-1));
        x.company(0, 9, 3);
        x.pull(0, 2);
        x.hours(1);
        Due.is("cut off already", x.breaks(4), 0);
        Due.is("pulled down", x.breaks(2), FireWards.NONE);
    }

    private static void kept() {
        FireWards x = new FireWards(2, 2);
        for (int cell = 0; cell < 9; cell++) {
            x.house(cell, 9, 0);
        }
        x.light(0);
        Due.is("two", x.breaks(8), 2);
        Due.is("none, what was kept stays", x.breaks(1), FireWards.NONE);
        Due.is("none, what was kept stays", x.breaks(0), FireWards.NONE);
        Due.is("first", x.breaker(0), 1);
        Due.is("second", x.breaker(1), 3);
        x.hours(100);
        Due.is("kept after hours too", x.breaker(1), 3);
        // All around a told house in the middle of 5 by 5, with fires in all corners.
        FireWards y = new FireWards(4, 4);
        for (int cell = 0; cell < 25; cell++) {
            y.house(cell, 9, 0);
        }
        int[] corners = {0, 4, 20, 24};
        for (int corner : corners) {
            y.light(corner);
        }
        Due.is("four", y.breaks(12), 4);
        int[] due = {7, 11, 13, 17};
        for (int i = 0; i < 4; i++) {
            Due.is("around", y.breaker(i), due[i]);
        }
        Due.none("a fifth", () -> y.breaker(4));
    }

    private static void randomCity(Random random, int number) {
        int w = 1 + random.nextInt(number % 4 == 0 ? 8 : 5);
        int h = 1 + random.nextInt(number % 4 == 0 ? 8 : 5);
        FireWards x = new FireWards(w - 1, h - 1);
        int percent = 60 + random.nextInt(41);
        for (int cell = 0; cell < w * h; cell++) {
            if (random.nextInt(100) < percent) {
                x.house(cell, 1 + random.nextInt(9), 0);
            }
        }
        int fires = 1 + random.nextInt(4);
        for (int i = 0; i < fires; i++) {
            x.light(random.nextInt(w * h));
        }
        int tried = w * h > 30 ? 3 : 8;
        for (int i = 0; i < tried; i++) {
            int told = random.nextInt(w * h);
            int[] due = byTrying(x, w, h, told);
            int got = x.breaks(told);
            Due.is("city " + number + " breaks(" + told + ")", got, due == null ? -1 : due.length);
            for (int j = 0; due != null && j < due.length && got == due.length; j++) {
                Due.is("city " + number + " breaker(" + j + ")", x.breaker(j), due[j]);
            }
        }
    }

    /** The first set of the fewest, in the order of rows; null if there is none. */
    private static int[] byTrying(FireWards x, int w, int h, int told) {
        int[] state = new int[w * h];
        for (int cell = 0; cell < w * h; cell++) {
            state[cell] = x.cell(cell, 0);
        }
        if (state[told] != 0) {
            return null;
        }
        for (int size = 0; size <= 4; size++) {
            int[] set = new int[size];
            if (tries(state, w, h, told, set, 0, 0)) {
                return set;
            }
        }
        return null;
    }

    private static boolean tries(int[] state, int w, int h, int told, int[] set, int at, int from) {
        if (at == set.length) {
            return !comes(state, w, h, told);
        }
        for (int cell = from; cell < w * h; cell++) {
            if (state[cell] == 0 && cell != told) {
                set[at] = cell;
                state[cell] = 3;
                boolean found = tries(state, w, h, told, set, at + 1, cell + 1);
                state[cell] = 0;
                if (found) {
                    return true;
                }
            }
        }
        return false;
    }

    /** Whether a row of whole houses leads from one beside a burning one to the told one. */
    private static boolean comes(int[] state, int w, int h, int told) {
        boolean[] seen = new boolean[w * h];
        return comesFrom(state, w, h, told, seen);
    }

    private static boolean comesFrom(int[] state, int w, int h, int cell, boolean[] seen) {
        seen[cell] = true;
        int[][] ways = {{0, -1}, {0, 1}, {-1, 0}, {1, 0}};
        for (int[] way : ways) {
            int x = cell % w + way[0];
            int y = cell / w + way[1];
            if (x < 0 || x >= w || y < 0 || y >= h) {
                continue;
            }
            int other = y * w + x;
            if (state[other] == 1) {
                return true;
            }
            if (state[other] == 0 && !seen[other] && comesFrom(state, w, h, other, seen)) {
                return true;
            }
        }
        return false;
    }
}
