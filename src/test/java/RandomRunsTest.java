import java.util.NoSuchElementException;
import java.util.Random;
import java.util.function.LongSupplier;

/**
 * Runs of up to 512 random calls, right and wrong ones, on FireWards and on Model: every answer and
 * every exception must be the same, and no other exception may come.
 */
public final class RandomRunsTest {
    private static final int RUNS = 400;
    private static final String[] WORDS = {"ward", "wood", "fuel", "own", "men", "far", "hour", "fires"};
    private static final String[] SCRAPS = {"call", "pay", "and", "or", "not", "(", ")", ";", "+", "-", "*", "<", "=",
        "ward", "x", "7", "123456", "99999", "@", "\t", "\n", " "};

    private final Random random;
    private final FireWards x;
    private final Model m;
    private final int cells;
    private final StringBuilder story = new StringBuilder();
    private final int most;
    private static int fires;
    private static int quarrels;
    private static int saved;
    private static int pulled;
    private static int heard;
    private static final int[] kinds = new int[4];

    private RandomRunsTest(long seed) {
        random = new Random(seed);
        int wide = random.nextInt(8) + 8 * random.nextInt(3) - 8;
        int high = random.nextInt(8) + 8 * random.nextInt(3) - 8;
        x = new FireWards(wide, high);
        m = new Model(wide, high);
        cells = m.w * m.h;
        most = random.nextInt(4) == 0 ? 100 : 3;
    }

    public static void main(String[] args) {
        for (int run = 0; run < RUNS; run++) {
            RandomRunsTest t = new RandomRunsTest(run);
            t.found();
            for (int i = 0; i < 200 && !t.call(); i++) {
                t.looks(i);
            }
        }
        System.out.println("fires " + fires + ", put out " + saved + ", quarrels " + quarrels + ", pulled down " + pulled
            + ", laws " + heard + ", faults " + kinds[1] + " " + kinds[2] + " " + kinds[3]);
        Due.yes("the runs reach what they should", fires > 1000 && saved > 1000 && quarrels > 100 && pulled > 100
            && heard > 100 && kinds[1] > 50 && kinds[2] > 10 && kinds[3] > 10);
        Due.end("RandomRunsTest");
    }

    private static long answer(LongSupplier call) {
        try {
            return call.getAsLong();
        } catch (NoSuchElementException e) {
            return Long.MIN_VALUE;
        } catch (IllegalArgumentException e) {
            return Long.MIN_VALUE + 1;
        }
    }

    /** Whether the two differ. */
    private boolean differ(String call, LongSupplier got, LongSupplier want) {
        long due = answer(want);
        long a = Long.MAX_VALUE;
        try {
            a = answer(got);
        } catch (RuntimeException e) {
            story.append(e).append('\n');
        }
        story.append(call).append(" -> ").append(a).append('\n');
        if (a == due) {
            Due.is(call, a, due);
            return false;
        }
        System.out.println(story);
        Due.is(call, a, due);
        return true;
    }

    private int any(int low, int high) {
        int r = random.nextInt(60);
        if (r == 0) {
            return low - 1;
        }
        if (r == 1) {
            return high + 1;
        }
        if (r == 2) {
            return random.nextInt();
        }
        return low + random.nextInt(Math.max(1, high - low + 1));
    }

    private static int bit(boolean b) {
        return b ? 1 : 0;
    }

    private void found() {
        int percent = 30 + random.nextInt(71);
        for (int c = 0; c < cells; c++) {
            int cell = c;
            int wood = 1 + random.nextInt(9);
            int ward = random.nextInt(3);
            if (random.nextInt(100) < percent) {
                differ("house", () -> bit(x.house(cell, wood, ward)), () -> bit(m.house(cell, wood, ward)));
            } else if (random.nextInt(8) == 0) {
                differ("well", () -> bit(x.well(cell, true)), () -> bit(m.well(cell, true)));
            }
        }
        int teams = random.nextInt(9);
        for (int i = 0; i < teams; i++) {
            int ward = random.nextInt(3);
            int men = 1 + random.nextInt(9);
            int cell = random.nextInt(cells);
            differ("company", () -> x.company(ward, men, cell), () -> m.company(ward, men, cell));
        }
    }

    private boolean call() {
        int a = any(0, cells - 1);
        int team = any(0, m.teams.size() - 1);
        int v = any(0, 4);
        switch (random.nextInt(16)) {
            case 0:
                int wood = any(1, 9);
                int ward = any(0, 7);
                return differ("house(" + a + "," + wood + "," + ward + ")",
                    () -> bit(x.house(a, wood, ward)), () -> bit(m.house(a, wood, ward)));
            case 1:
                boolean is = random.nextBoolean();
                return differ("well(" + a + "," + is + ")", () -> bit(x.well(a, is)), () -> bit(m.well(a, is)));
            case 2:
                return differ("wind(" + v + ")", () -> x.wind(v), () -> m.wind(v));
            case 3:
                int men = any(1, 9);
                int own = any(0, 7);
                return differ("company(" + own + "," + men + "," + a + ")",
                    () -> x.company(own, men, a), () -> m.company(own, men, a));
            case 4:
                return random.nextInt(3) == 0 && law();
            case 5:
            case 6:
                return differ("light(" + a + ")", () -> x.light(a), () -> m.light(a));
            case 7:
            case 8:
                return differ("send(" + team + "," + a + ")", () -> bit(x.send(team, a)), () -> bit(m.send(team, a)));
            case 9:
                return differ("pull(" + team + "," + a + ")", () -> bit(x.pull(team, a)), () -> bit(m.pull(team, a)));
            default:
                int n = random.nextInt(10) == 0 ? any(0, most) : any(0, 2);
                return differ("hours(" + n + ")", () -> x.hours(n), () -> m.hours(n));
        }
    }

    private boolean law() {
        String text = random.nextInt(5) == 0 ? scraps() : rules();
        byte[] bytes = text.getBytes(java.nio.charset.StandardCharsets.ISO_8859_1);
        for (int at = 0; at < bytes.length; at += 20) {
            int[] n = new int[5];
            for (int i = 0; i < 20; i++) {
                n[i / 4] = n[i / 4] << 8 | (at + i < bytes.length ? bytes[at + i] & 255 : random.nextInt(256));
            }
            if (differ("feed", () -> x.feed(n[0], n[1], n[2], n[3], n[4]), () -> m.feed(n))) {
                return true;
            }
        }
        int n = random.nextInt(8) == 0 ? any(0, bytes.length) : bytes.length;
        int day = random.nextInt(3) == 0 ? any(0, 100) : hourDay();
        boolean differs = differ("law(" + n + "," + day + ") " + text, () -> x.law(n, day), () -> m.law(n, day));
        kinds[m.faultPlace == FireWards.NONE ? 0 : m.faultKind]++;
        return differs;
    }

    private int hourDay() {
        return m.hour / 24 + random.nextInt(2);
    }

    private String scraps() {
        StringBuilder s = new StringBuilder(random.nextInt(3) == 0 ? "" : "call ");
        int n = random.nextInt(30);
        for (int i = 0; i < n; i++) {
            s.append(SCRAPS[random.nextInt(SCRAPS.length)]);
        }
        return s.toString();
    }

    private String rules() {
        StringBuilder s = new StringBuilder();
        int n = 1 + random.nextInt(random.nextInt(10) == 0 ? 14 : 4);
        for (int i = 0; i < n; i++) {
            s.append(random.nextBoolean() ? "call " : "pay ");
            expr(s, random.nextInt(20) == 0 ? 0 : 3);
            s.append(random.nextBoolean() ? ";" : " ; \n");
        }
        if (random.nextInt(4) == 0) {
            // One byte is spoilt.
            char spoilt = random.nextInt(3) == 0 ? (char) random.nextInt(256) : "();+-*<= 1a".charAt(random.nextInt(11));
            s.setCharAt(random.nextInt(s.length()), spoilt);
        }
        return s.toString();
    }

    private void expr(StringBuilder s, int depth) {
        int n = 1 + random.nextInt(2);
        for (int i = 0; i < n; i++) {
            s.append(i == 0 ? "" : random.nextBoolean() ? " and " : " or ");
            s.append(random.nextInt(4) == 0 ? "not " : "");
            sum(s, depth);
            if (random.nextBoolean()) {
                s.append(random.nextBoolean() ? "<" : " = ");
                sum(s, depth);
            }
        }
    }

    private void sum(StringBuilder s, int depth) {
        int n = 1 + random.nextInt(2) * random.nextInt(3);
        for (int i = 0; i < n && s.length() < 300; i++) {
            if (i > 0) {
                s.append("+-*".charAt(random.nextInt(3)));
            }
            part(s, depth);
        }
    }

    private void part(StringBuilder s, int depth) {
        int kind = random.nextInt(depth >= 7 ? 2 : 4 + depth);
        if (kind == 0) {
            s.append(random.nextInt(random.nextBoolean() ? 4 : 100000));
        } else if (kind == 1 || kind > 3 || s.length() > 300) {
            s.append(WORDS[random.nextInt(WORDS.length)]);
        } else {
            s.append('(');
            expr(s, depth + 1);
            s.append(')');
        }
    }

    /** Looks at a part of the city after each call, at all of it now and then. */
    private void looks(int i) {
        boolean all = i % 40 == 39;
        for (int c = 0; c < cells; c++) {
            if (!all && random.nextInt(cells) > 3) {
                continue;
            }
            int cell = c;
            for (int w = -1; w <= 8; w++) {
                int what = w;
                differ("cell(" + cell + "," + what + ")", () -> x.cell(cell, what), () -> m.cell(cell, what));
            }
        }
        for (int t = -1; t <= m.teams.size(); t++) {
            int team = t;
            for (int w = -1; w <= 8; w++) {
                int what = w;
                differ("of(" + team + "," + what + ")", () -> x.of(team, what), () -> m.of(team, what));
            }
        }
        for (int w = -1; w <= 10; w++) {
            int what = w;
            differ("count(" + what + ")", () -> x.count(what), () -> m.count(what));
        }
        differ("fault()", () -> x.fault(), () -> m.faultPlace);
        if (i == 199) {
            fires += m.count(1) + m.count(3);
            quarrels += m.count(7);
            pulled += m.count(4);
            heard += m.laws.size();
            m.teams.forEach(t -> saved += t.saved);
        }
    }
}
