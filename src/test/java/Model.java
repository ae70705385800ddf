import java.util.ArrayDeque;
import java.util.ArrayList;
import java.util.HashMap;
import java.util.List;
import java.util.Map;
import java.util.NoSuchElementException;
import java.util.TreeMap;
import java.util.function.ToIntFunction;

/**
 * The document once more, written apart from FireWards and in another way (objects, collections,
 * laws as trees of functions), without any care for room or time: RandomRunsTest compares the two.
 * It leaves out breaks, which BreakTest tries by itself.
 */
final class Model {
    static final class House {
        int wood;
        int ward;
        int state;
        int fuel;
        int warmth;
        int wet;
        Team roof;
    }

    static final class Team {
        int number;
        int ward;
        int men;
        int cell;
        Integer fire;
        Integer toPull;
        int paid;
        int quarrels;
        int saved;

        Integer goal() {
            return fire != null ? fire : toPull;
        }
    }

    static final class Text {
        int day;
        List<ToIntFunction<Map<String, Integer>>> calls = new ArrayList<>();
        List<ToIntFunction<Map<String, Integer>>> pays = new ArrayList<>();
    }

    static final class Fault extends Exception {
        private static final long serialVersionUID = 1;
        final int kind;
        final int place;

        Fault(int kind, int place) {
            this.kind = kind;
            this.place = place;
        }
    }

    final int w;
    final int h;
    final TreeMap<Integer, House> houses = new TreeMap<>();
    final TreeMap<Integer, Boolean> wells = new TreeMap<>();
    final List<Team> teams = new ArrayList<>();
    final List<Text> laws = new ArrayList<>();
    String tape = "";
    int wind;
    int hour;
    int faultPlace = -1;
    int faultKind;

    Model(int wide, int high) {
        w = Math.floorMod(wide, 8) + 1;
        h = Math.floorMod(high, 8) + 1;
    }

    void cellThere(int cell) {
        if (cell < 0 || cell >= w * h) {
            throw new NoSuchElementException();
        }
    }

    Team team(int number) {
        if (number < 0 || number >= teams.size()) {
            throw new NoSuchElementException();
        }
        return teams.get(number);
    }

    boolean house(int cell, int wood, int ward) {
        cellThere(cell);
        House old = houses.get(cell);
        boolean room = old == null ? !wells.containsKey(cell) : old.state == 2 || old.state == 3;
        if (!room || wood < 1 || wood > 9 || ward < 0 || ward > 7) {
            return false;
        }
        House built = new House();
        built.wood = wood;
        built.fuel = wood;
        built.ward = ward;
        houses.put(cell, built);
        return true;
    }

    boolean well(int cell, boolean is) {
        cellThere(cell);
        if (houses.containsKey(cell) || wells.containsKey(cell) == is) {
            return false;
        }
        if (is) {
            wells.put(cell, true);
        } else {
            wells.remove(cell);
        }
        return true;
    }

    int wind(int v) {
        if (v < 0 || v > 4) {
            throw new IllegalArgumentException();
        }
        int was = wind;
        wind = v;
        return was;
    }

    int company(int ward, int men, int cell) {
        cellThere(cell);
        if (teams.size() == 8 || ward < 0 || ward > 7 || men < 1 || men > 9) {
            return -1;
        }
        Team t = new Team();
        t.number = teams.size();
        t.ward = ward;
        t.men = men;
        t.cell = cell;
        teams.add(t);
        return t.number;
    }

    int feed(int... numbers) {
        if (tape.length() > 380) {
            return -1;
        }
        for (int n : numbers) {
            tape += "" + (char) (n >>> 24) + (char) (n >>> 16 & 255) + (char) (n >>> 8 & 255) + (char) (n & 255);
        }
        return tape.length();
    }

    int law(int n, int day) {
        if (n < 0 || n > tape.length() || day < 0 || day > 100) {
            throw new IllegalArgumentException();
        }
        String text = tape.substring(0, n);
        tape = "";
        faultPlace = -1;
        if (laws.size() == 6) {
            return -9;
        }
        try {
            Text read = new Parser(text).text();
            read.day = day;
            laws.add(read);
            return laws.size() - 1;
        } catch (Fault f) {
            faultPlace = f.place;
            faultKind = f.kind;
            return -1 - f.kind;
        }
    }

    Text inForce() {
        Text best = null;
        for (Text t : laws) {
            if (t.day * 24 <= hour && (best == null || t.day >= best.day)) {
                best = t;
            }
        }
        return best;
    }

    int far(int a, int b) {
        return Math.abs(a % w - b % w) + Math.abs(a / w - b / w);
    }

    List<Integer> beside(int cell) {
        List<Integer> all = new ArrayList<>();
        for (int other = 0; other < w * h; other++) {
            if (far(cell, other) == 1) {
                all.add(other);
            }
        }
        return all;
    }

    boolean burns(int cell) {
        return houses.containsKey(cell) && houses.get(cell).state == 1;
    }

    Map<String, Integer> names(Team t, int cell) {
        House b = houses.get(cell);
        Map<String, Integer> m = new HashMap<>();
        m.put("ward", b.ward);
        m.put("wood", b.wood);
        m.put("fuel", b.fuel);
        m.put("own", t.ward);
        m.put("men", t.men);
        m.put("far", far(t.cell, cell));
        m.put("hour", hour % 24);
        m.put("fires", (int) houses.values().stream().filter(x -> x.state == 1).count());
        return m;
    }

    void ring(List<Integer> begun) {
        for (Team t : teams) {
            if (t.toPull != null && begun.contains(t.toPull)) {
                t.toPull = null;
            }
        }
        Text law = inForce();
        for (int cell : begun) {
            for (Team t : teams) {
                if (t.goal() != null) {
                    continue;
                }
                boolean called = law == null ? t.ward == houses.get(cell).ward
                    : law.calls.stream().anyMatch(c -> c.applyAsInt(names(t, cell)) != 0);
                if (called) {
                    t.fire = cell;
                }
            }
        }
    }

    int light(int cell) {
        cellThere(cell);
        House b = houses.get(cell);
        if (b == null || b.state != 0) {
            return -1;
        }
        b.state = 1;
        ring(List.of(cell));
        return (int) teams.stream().filter(t -> t.fire != null && t.fire == cell).count();
    }

    boolean send(int company, int cell) {
        return turn(company, cell, 1);
    }

    boolean pull(int company, int cell) {
        return turn(company, cell, 0);
    }

    private boolean turn(int company, int cell, int state) {
        Team t = team(company);
        cellThere(cell);
        House b = houses.get(cell);
        Integer now = state == 1 ? t.fire : t.toPull;
        if (b == null || b.state != state || now != null && now == cell) {
            return false;
        }
        for (House other : houses.values()) {
            if (other.roof == t) {
                other.roof = null;
            }
        }
        t.fire = state == 1 ? cell : null;
        t.toPull = state == 0 ? cell : null;
        return true;
    }

    int hours(int n) {
        if (n < 0 || n > 100 || hour + n > 2400) {
            throw new IllegalArgumentException();
        }
        for (int i = 0; i < n; i++) {
            hour();
        }
        return hour;
    }

    /** Fewest steps from a cell to one beside the goal; a big number if there is no way. */
    private int steps(int from, int goal) {
        Map<Integer, Integer> seen = new HashMap<>();
        ArrayDeque<Integer> queue = new ArrayDeque<>();
        seen.put(from, 0);
        queue.add(from);
        while (!queue.isEmpty()) {
            int cell = queue.poll();
            if (far(cell, goal) == 1) {
                return seen.get(cell);
            }
            for (int next : beside(cell)) {
                if (!burns(next) && next != goal && !seen.containsKey(next)) {
                    seen.put(next, seen.get(cell) + 1);
                    queue.add(next);
                }
            }
        }
        return 1000;
    }

    private void go(Team t) {
        int best = -1;
        int fewest = 1000;
        for (int next : beside(t.cell)) {
            if (burns(next) || next == t.goal()) {
                continue;
            }
            int there = steps(next, t.goal());
            if (there < fewest) {
                fewest = there;
                best = next;
            }
        }
        if (best != -1) {
            t.cell = best;
        }
    }

    private void hour() {
        for (Team t : teams) {
            if (t.goal() != null && far(t.cell, t.goal()) != 1) {
                go(t);
            }
        }
        for (Map.Entry<Integer, House> e : houses.entrySet()) {
            House b = e.getValue();
            if (b.state == 1 && b.roof == null) {
                List<Team> there = new ArrayList<>(teams);
                there.removeIf(t -> !e.getKey().equals(t.fire) || far(t.cell, e.getKey()) != 1);
                for (int i = 0; i < there.size(); i++) {
                    if (i == 0) {
                        b.roof = there.get(0);
                    } else {
                        there.get(i).quarrels++;
                    }
                }
            }
        }
        teams.forEach(this::work);
        for (Map.Entry<Integer, House> e : houses.entrySet()) {
            if (e.getValue().state == 1) {
                burn(e.getKey(), e.getValue());
            }
        }
        warm();
        hour++;
    }

    private void work(Team t) {
        for (Map.Entry<Integer, House> e : houses.entrySet()) {
            if (e.getValue().roof == t && far(t.cell, e.getKey()) == 1) {
                boolean near = wells.keySet().stream().anyMatch(c -> far(c, t.cell) <= 2);
                e.getValue().wet += near ? 2 * t.men : t.men;
            }
        }
        if (t.toPull != null && far(t.cell, t.toPull) == 1) {
            House b = houses.get(t.toPull);
            b.fuel = Math.max(0, b.fuel - t.men);
            if (b.fuel == 0) {
                b.state = 3;
                noGoal(t.toPull);
            }
        }
    }

    private void noGoal(int cell) {
        for (Team t : teams) {
            if (t.fire != null && t.fire == cell) {
                t.fire = null;
            }
            if (t.toPull != null && t.toPull == cell) {
                t.toPull = null;
            }
        }
    }

    private void burn(int cell, House b) {
        if (b.wet >= 4 * b.fuel) {
            b.state = 0;
            b.warmth = 0;
            b.wet = 0;
            Team t = b.roof;
            if (t != null) {
                Text law = inForce();
                t.paid += law == null ? 1
                    : law.pays.stream().mapToInt(p -> p.applyAsInt(names(t, cell))).reduce(0, (x, y) -> x + y);
                t.saved++;
            }
        } else {
            b.fuel--;
            if (b.fuel > 0) {
                return;
            }
            b.state = 2;
        }
        b.roof = null;
        noGoal(cell);
    }

    private void warm() {
        List<Integer> begun = new ArrayList<>();
        for (Map.Entry<Integer, House> e : houses.entrySet()) {
            House b = e.getValue();
            int cell = e.getKey();
            if (b.state != 0) {
                continue;
            }
            int more = -1;
            for (int other : beside(cell)) {
                if (burns(other)) {
                    int dx = cell % w - other % w;
                    int dy = cell / w - other / w;
                    int blown = dy == -1 ? 1 : dx == 1 ? 2 : dy == 1 ? 3 : 4;
                    more += wind == blown ? 4 : 2;
                }
            }
            b.warmth = Math.max(0, b.warmth + more);
            if (b.warmth >= 5) {
                begun.add(cell);
            }
        }
        begun.forEach(cell -> houses.get(cell).state = 1);
        ring(begun);
    }

    int cell(int cell, int what) {
        cellThere(cell);
        House b = houses.get(cell);
        if (what < 0 || what > 7) {
            throw new NoSuchElementException();
        }
        if (what == 7) {
            return wells.containsKey(cell) ? 1 : 0;
        }
        if (b == null) {
            return what == 0 || what == 6 ? -1 : 0;
        }
        return List.of(b.state, b.wood, b.ward, b.fuel, b.warmth, b.wet, b.roof == null ? -1 : b.roof.number).get(what);
    }

    int of(int company, int what) {
        Team t = team(company);
        if (what < 0 || what > 7) {
            throw new NoSuchElementException();
        }
        return List.of(t.ward, t.men, t.cell, t.goal() == null ? -1 : t.goal(), t.toPull == null ? 0 : 1,
            t.paid, t.quarrels, t.saved).get(what);
    }

    int count(int what) {
        if (what < 0 || what > 9) {
            throw new NoSuchElementException();
        }
        int[] states = {0, 1, 0, 2, 3};
        if (what >= 1 && what <= 4) {
            return (int) houses.values().stream().filter(b -> b.state == states[what]).count();
        }
        int quarrels = teams.stream().mapToInt(t -> t.quarrels).sum();
        Text law = inForce();
        return List.of(hour, 0, 0, 0, 0, teams.size(), laws.size(), quarrels, tape.length(),
            law == null ? -1 : laws.indexOf(law)).get(what);
    }

    /** Reads straight from the text; each expression becomes a function of the names. */
    static final class Parser {
        private static final List<String> NAMES =
            List.of("ward", "wood", "fuel", "own", "men", "far", "hour", "fires");
        private final String text;
        private int at;

        Parser(String text) {
            this.text = text;
        }

        /** The token that comes, "" at the end; it is looked at, not taken. */
        private String look() {
            while (at < text.length() && " \n".indexOf(text.charAt(at)) >= 0) {
                at++;
            }
            if (at == text.length()) {
                return "";
            }
            String rest = text.substring(at);
            String token = rest.replaceFirst("(?s)^([a-z]+|[0-9]+|.).*$", "$1");
            return token;
        }

        private boolean takes(String token) {
            if (!look().equals(token)) {
                return false;
            }
            at += token.length();
            return true;
        }

        private Fault fault(int kind) {
            look();
            return new Fault(kind, at);
        }

        Text text() throws Fault {
            Text law = new Text();
            for (int rules = 0; !look().isEmpty(); rules++) {
                boolean call = look().equals("call");
                if (!call && !look().equals("pay")) {
                    throw fault(1);
                }
                if (rules == 12) {
                    throw fault(2);
                }
                takes(look());
                (call ? law.calls : law.pays).add(expr(1));
                if (!takes(";")) {
                    throw fault(1);
                }
            }
            return law;
        }

        private ToIntFunction<Map<String, Integer>> expr(int level) throws Fault {
            if (level == 7) {
                String token = look();
                boolean word = token.matches("[a-z]+");
                boolean can = token.equals("not") || token.equals("(") || token.matches("[0-9]+") || NAMES.contains(token);
                throw fault(can ? 2 : word ? 3 : 1);
            }
            ToIntFunction<Map<String, Integer>> left = test(level);
            while (true) {
                ToIntFunction<Map<String, Integer>> l = left;
                if (takes("and")) {
                    ToIntFunction<Map<String, Integer>> r = test(level);
                    left = m -> l.applyAsInt(m) != 0 && r.applyAsInt(m) != 0 ? 1 : 0;
                } else if (takes("or")) {
                    ToIntFunction<Map<String, Integer>> r = test(level);
                    left = m -> l.applyAsInt(m) != 0 || r.applyAsInt(m) != 0 ? 1 : 0;
                } else {
                    return left;
                }
            }
        }

        private ToIntFunction<Map<String, Integer>> test(int level) throws Fault {
            boolean not = takes("not");
            ToIntFunction<Map<String, Integer>> l = sum(level);
            ToIntFunction<Map<String, Integer>> all = l;
            if (takes("<")) {
                ToIntFunction<Map<String, Integer>> r = sum(level);
                all = m -> l.applyAsInt(m) < r.applyAsInt(m) ? 1 : 0;
            } else if (takes("=")) {
                ToIntFunction<Map<String, Integer>> r = sum(level);
                all = m -> l.applyAsInt(m) == r.applyAsInt(m) ? 1 : 0;
            }
            ToIntFunction<Map<String, Integer>> plain = all;
            return not ? m -> plain.applyAsInt(m) == 0 ? 1 : 0 : plain;
        }

        private ToIntFunction<Map<String, Integer>> sum(int level) throws Fault {
            ToIntFunction<Map<String, Integer>> left = part(level);
            while (true) {
                ToIntFunction<Map<String, Integer>> l = left;
                if (takes("+")) {
                    ToIntFunction<Map<String, Integer>> r = part(level);
                    left = m -> l.applyAsInt(m) + r.applyAsInt(m);
                } else if (takes("-")) {
                    ToIntFunction<Map<String, Integer>> r = part(level);
                    left = m -> l.applyAsInt(m) - r.applyAsInt(m);
                } else if (takes("*")) {
                    ToIntFunction<Map<String, Integer>> r = part(level);
                    left = m -> l.applyAsInt(m) * r.applyAsInt(m);
                } else {
                    return left;
                }
            }
        }

        private ToIntFunction<Map<String, Integer>> part(int level) throws Fault {
            String token = look();
            if (token.matches("[0-9]{1,5}")) {
                takes(token);
                int number = Integer.parseInt(token);
                return m -> number;
            }
            if (token.matches("[0-9]+")) {
                throw fault(2);
            }
            if (NAMES.contains(token)) {
                takes(token);
                return m -> m.get(token);
            }
            if (token.matches("[a-z]+")) {
                throw fault(3);
            }
            if (!takes("(")) {
                throw fault(1);
            }
            ToIntFunction<Map<String, Integer>> inner = expr(level + 1);
            if (!takes(")")) {
                throw fault(1);
            }
            return inner;
        }
    }
}
