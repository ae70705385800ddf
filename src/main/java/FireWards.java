import java.util.Arrays;
import java.util.NoSuchElementException;

/**
 * A wooden city and its companies for fire, stepped by hours. The words in capitals in the comments
 * are those of the document ../shared/DOC.md; a crew is a COMPANY there.
 */
public final class FireWards {
    public static final int NONE = -1;

    private static final int GROUND = -1;
    private static final int WHOLE = 0;
    private static final int BURNING = 1;
    private static final int ASHES = 2;
    private static final int PULLED_DOWN = 3;

    private static final int SIDE_BITS = 7;
    private static final int SIDES = 4;
    private static final int MOST_WOOD = 9;
    private static final int MOST_WARD = 7;
    private static final int MOST_MEN = 9;
    private static final int MOST_CREWS = 8;
    private static final int MOST_WIND = 4;
    private static final int CATCHES_FIRE = 5;
    private static final int WET_FOR_FUEL = 4;
    private static final int WELL_REACHES = 2;

    private static final int MOST_HOURS = 100;
    private static final int LAST_HOUR = 2400;
    private static final int DAY_HOURS = 24;
    private static final int LAST_DAY = 100;

    private static final int MOST_BYTES = 400;
    private static final int FED_BYTES = 20;
    private static final int MOST_LAWS = 6;
    private static final int MOST_RULES = 12;
    private static final int MOST_DEPTH = 6;
    private static final int MOST_DIGITS = 5;
    private static final int BOOK_IS_FULL = -9;

    private static final int CANNOT_STAND = 1;
    private static final int TOO_MUCH = 2;
    private static final int NO_NAME = 3;

    // A TOKEN is kept as one int, in texts and in LAWS: a NUMBER as itself, all else as one of these.
    private static final int END = -1;
    private static final int NO_TOKEN = -2;
    private static final int LONG_NUMBER = -3;
    private static final int OPEN = -4;
    private static final int CLOSE = -5;
    private static final int SEMICOLON = -6;
    private static final int PLUS = -7;
    private static final int MINUS = -8;
    private static final int TIMES = -9;
    private static final int LESS = -10;
    private static final int SAME = -11;
    private static final int CALL = -12;
    private static final int PAY = -13;
    private static final int AND = -14;
    private static final int OR = -15;
    private static final int NOT = -16;
    private static final int OTHER_WORD = -17;
    private static final int WARD = -20;
    private static final int WOOD = -21;
    private static final int FUEL = -22;
    private static final int OWN = -23;
    private static final int MEN = -24;
    private static final int FAR = -25;
    private static final int HOUR = -26;
    private static final int FIRES = -27;
    private static final int NAMES = 8;

    private final City city;
    private final Crews crews;
    private final Tape tape;
    private final LawReader reader;
    private final LawBook book;
    private final Judge judge;
    private final Ways ways;
    private final FireBreak dam;
    private final int[] fresh;
    private int freshSize;
    private int faultPlace;
    private int hour;

    public FireWards(int wide, int high) {
        city = new City(1 + (wide & SIDE_BITS), 1 + (high & SIDE_BITS));
        crews = new Crews();
        tape = new Tape();
        reader = new LawReader(tape.bytes);
        book = new LawBook();
        judge = new Judge();
        ways = new Ways(city);
        dam = new FireBreak(city);
        fresh = new int[city.size];
        faultPlace = NONE;
    }

    public boolean house(int cell, int wood, int ward) throws NoSuchElementException {
        needCell(cell);
        if (wood < 1 || wood > MOST_WOOD || !isWard(ward)) {
            return false;
        }
        return city.build(cell, wood, ward);
    }

    public boolean well(int cell, boolean is) throws NoSuchElementException {
        needCell(cell);
        if (city.state[cell] != GROUND || city.dug[cell] == is) {
            return false;
        }
        city.dug[cell] = is;
        return true;
    }

    public int wind(int v) throws IllegalArgumentException {
        if (v < 0 || v > MOST_WIND) {
            throw new IllegalArgumentException("no such wind");
        }
        int old = city.blows;
        city.blows = v;
        return old;
    }

    public int company(int ward, int men, int cell) throws NoSuchElementException {
        needCell(cell);
        if (!isWard(ward) || men < 1 || men > MOST_MEN) {
            return NONE;
        }
        return crews.enlist(ward, men, cell);
    }

    public int feed(int a, int b, int c, int d, int e) {
        if (tape.size + FED_BYTES > MOST_BYTES) {
            return NONE;
        }
        tape.put(a);
        tape.put(b);
        tape.put(c);
        tape.put(d);
        tape.put(e);
        return tape.size;
    }

    public int law(int n, int day) throws IllegalArgumentException {
        if (n < 0 || n > tape.size || day < 0 || day > LAST_DAY) {
            throw new IllegalArgumentException("no such text or day");
        }
        tape.size = 0;
        faultPlace = NONE;
        if (book.size >= MOST_LAWS) {
            return BOOK_IS_FULL;
        }
        if (!reader.reads(n)) {
            faultPlace = reader.place();
            return -1 - reader.wrong;
        }
        return book.enter(reader.code, reader.size, day);
    }

    public int fault() {
        return faultPlace;
    }

    public int light(int cell) throws NoSuchElementException {
        needCell(cell);
        if (city.state[cell] != WHOLE) {
            return NONE;
        }
        city.state[cell] = BURNING;
        fresh[0] = cell;
        freshSize = 1;
        ringBells();
        return crews.bound(cell);
    }

    public boolean send(int company, int cell) throws NoSuchElementException {
        return order(company, cell, BURNING);
    }

    public boolean pull(int company, int cell) throws NoSuchElementException {
        return order(company, cell, WHOLE);
    }

    public int hours(int n) throws IllegalArgumentException {
        if (n < 0 || n > MOST_HOURS || n > LAST_HOUR - hour) {
            throw new IllegalArgumentException("not so many hours");
        }
        for (int i = 0; i < n; i++) {
            passHour();
        }
        return hour;
    }

    public int cell(int cell, int what) throws NoSuchElementException {
        needCell(cell);
        switch (what) {
            case 0: return city.state[cell];
            case 1: return city.wood[cell];
            case 2: return city.ward[cell];
            case 3: return city.fuel[cell];
            case 4: return city.warmth[cell];
            case 5: return city.wet[cell];
            case 6: return city.roof[cell];
            case 7: return city.dug[cell] ? 1 : 0;
            default: throw new NoSuchElementException("no such thing of a cell");
        }
    }

    public int of(int company, int what) throws NoSuchElementException {
        needCrew(company);
        switch (what) {
            case 0: return crews.ward[company];
            case 1: return crews.men[company];
            case 2: return crews.place[company];
            case 3: return crews.goal[company];
            case 4: return crews.pulls[company] ? 1 : 0;
            case 5: return crews.paid[company];
            case 6: return crews.quarrels[company];
            case 7: return crews.saved[company];
            default: throw new NoSuchElementException("no such thing of a company");
        }
    }

    public int breaks(int cell) throws NoSuchElementException {
        needCell(cell);
        if (city.state[cell] != WHOLE || city.burningBeside(cell)) {
            return NONE;
        }
        dam.plan(cell);
        return dam.keptSize;
    }

    public int breaker(int i) throws NoSuchElementException {
        if (i < 0 || i >= dam.keptSize) {
            throw new NoSuchElementException("no such house of a break");
        }
        return dam.kept[i];
    }

    public int count(int what) throws NoSuchElementException {
        switch (what) {
            case 0: return hour;
            case 1: return city.tally(BURNING);
            case 2: return city.tally(WHOLE);
            case 3: return city.tally(ASHES);
            case 4: return city.tally(PULLED_DOWN);
            case 5: return crews.size;
            case 6: return book.size;
            case 7: return crews.allQuarrels();
            case 8: return tape.size;
            case 9: return book.inForce(hour / DAY_HOURS);
            default: throw new NoSuchElementException("no such count");
        }
    }

    private void needCell(int cell) {
        if (!city.has(cell)) {
            throw new NoSuchElementException("no such cell");
        }
    }

    private void needCrew(int crew) {
        if (!crews.has(crew)) {
            throw new NoSuchElementException("no such company");
        }
    }

    private static boolean isWard(int ward) {
        return ward >= 0 && ward <= MOST_WARD;
    }

    /** A fire is fought where a HOUSE is BURNING, one is pulled down where it is WHOLE. */
    private boolean order(int crew, int cell, int dueState) {
        needCrew(crew);
        needCell(cell);
        if (city.state[cell] != dueState || crews.goal[crew] == cell) {
            return false;
        }
        int old = crews.goal[crew];
        if (city.has(old) && city.roof[old] == crew) {
            city.roof[old] = NONE;
        }
        crews.goal[crew] = cell;
        crews.pulls[crew] = dueState == WHOLE;
        return true;
    }

    private void passHour() {
        crewsGo();
        giveRoofs();
        crewsWork();
        fireEats();
        freshSize = city.warmUp(fresh);
        ringBells();
        hour++;
    }

    private void crewsGo() {
        for (int crew = 0; crew < crews.size; crew++) {
            int goal = crews.goal[crew];
            if (goal != NONE && !city.areBeside(crews.place[crew], goal)) {
                crews.place[crew] = ways.stepTowards(crews.place[crew], goal);
            }
        }
    }

    private void giveRoofs() {
        for (int cell = 0; cell < city.size; cell++) {
            if (city.state[cell] == BURNING && city.roof[cell] == NONE) {
                giveRoof(cell);
            }
        }
    }

    private void giveRoof(int cell) {
        for (int crew = 0; crew < crews.size; crew++) {
            if (crews.goal[crew] != cell || !city.areBeside(crews.place[crew], cell)) {
                continue;
            }
            if (city.roof[cell] == NONE) {
                city.roof[cell] = crew;
            } else {
                crews.quarrels[crew]++;
            }
        }
    }

    private void crewsWork() {
        for (int crew = 0; crew < crews.size; crew++) {
            int goal = crews.goal[crew];
            if (!city.has(goal) || !city.areBeside(crews.place[crew], goal)) {
                continue;
            }
            if (crews.pulls[crew]) {
                pullAt(goal, crews.men[crew]);
            } else if (city.roof[goal] == crew) {
                int times = city.wellNear(crews.place[crew]) ? 2 : 1;
                city.wet[goal] += times * crews.men[crew];
            }
        }
    }

    private void pullAt(int cell, int men) {
        city.fuel[cell] -= men;
        if (city.fuel[cell] < 1) {
            city.fuel[cell] = 0;
            city.state[cell] = PULLED_DOWN;
            crews.forget(cell);
        }
    }

    private void fireEats() {
        for (int cell = 0; cell < city.size; cell++) {
            if (city.state[cell] != BURNING) {
                continue;
            }
            if (city.wet[cell] >= WET_FOR_FUEL * city.fuel[cell]) {
                putOut(cell);
                continue;
            }
            city.fuel[cell]--;
            if (city.fuel[cell] <= 0) {
                city.state[cell] = ASHES;
                leave(cell);
            }
        }
    }

    private void putOut(int cell) {
        int crew = city.roof[cell];
        // The state goes first: a HOUSE that is put out is none of the fires by which it is paid.
        city.state[cell] = WHOLE;
        city.warmth[cell] = 0;
        city.wet[cell] = 0;
        leave(cell);
        if (crews.has(crew)) {
            crews.paid[crew] += payFor(crew, cell);
            crews.saved[crew]++;
        }
    }

    private void leave(int cell) {
        city.roof[cell] = NONE;
        crews.forget(cell);
    }

    private void ringBells() {
        if (freshSize == 0) {
            return;
        }
        for (int i = 0; i < freshSize && i < fresh.length; i++) {
            // Ahead of all bells, so that who pulled at any of these can follow the first of them.
            crews.forget(fresh[i]);
        }
        int law = book.inForce(hour / DAY_HOURS);
        int fires = city.tally(BURNING);
        for (int i = 0; i < freshSize && i < fresh.length; i++) {
            ringBell(fresh[i], law, fires);
        }
    }

    private void ringBell(int cell, int law, int fires) {
        for (int crew = 0; crew < crews.size; crew++) {
            if (crews.goal[crew] == NONE && isCalled(crew, cell, law, fires)) {
                crews.goal[crew] = cell;
            }
        }
    }

    private boolean isCalled(int crew, int cell, int law, int fires) {
        if (law == NONE) {
            return crews.ward[crew] == city.ward[cell];
        }
        inform(crew, cell, fires);
        judge.apply(book, law);
        return judge.calls;
    }

    private int payFor(int crew, int cell) {
        int law = book.inForce(hour / DAY_HOURS);
        if (law == NONE) {
            return 1;
        }
        inform(crew, cell, city.tally(BURNING));
        judge.apply(book, law);
        return judge.pays;
    }

    private void inform(int crew, int cell, int fires) {
        judge.learn(WARD, city.ward[cell]);
        judge.learn(WOOD, city.wood[cell]);
        judge.learn(FUEL, city.fuel[cell]);
        judge.learn(OWN, crews.ward[crew]);
        judge.learn(MEN, crews.men[crew]);
        judge.learn(FAR, city.far(crews.place[crew], cell));
        judge.learn(HOUR, hour % DAY_HOURS);
        judge.learn(FIRES, fires);
    }

    /** The CELLS, what stands on each, and the WIND over them. */
    private static final class City {
        final int size;
        final int[] x;
        final int[] y;
        /** Four for each CELL, rising (above, left, right, below); NONE where the city ends. */
        final int[] beside;
        final int[] state;
        final int[] wood;
        final int[] ward;
        final int[] fuel;
        final int[] warmth;
        final int[] wet;
        final int[] roof;
        final boolean[] dug;
        int blows;

        City(int width, int height) {
            size = width * height;
            x = new int[size];
            y = new int[size];
            beside = new int[SIDES * size];
            state = new int[size];
            wood = new int[size];
            ward = new int[size];
            fuel = new int[size];
            warmth = new int[size];
            wet = new int[size];
            roof = new int[size];
            dug = new boolean[size];
            Arrays.fill(state, GROUND);
            Arrays.fill(roof, NONE);
            for (int row = 0; row < height; row++) {
                for (int column = 0; column < width; column++) {
                    int cell = row * width + column;
                    x[cell] = column;
                    y[cell] = row;
                    beside[SIDES * cell] = row > 0 ? cell - width : NONE;
                    beside[SIDES * cell + 1] = column > 0 ? cell - 1 : NONE;
                    beside[SIDES * cell + 2] = column + 1 < width ? cell + 1 : NONE;
                    beside[SIDES * cell + 3] = row + 1 < height ? cell + width : NONE;
                }
            }
        }

        boolean has(int cell) {
            return cell >= 0 && cell < size;
        }

        int far(int a, int b) {
            return Math.abs(x[a] - x[b]) + Math.abs(y[a] - y[b]);
        }

        boolean areBeside(int a, int b) {
            return far(a, b) == 1;
        }

        boolean build(int cell, int newWood, int newWard) {
            if (dug[cell] || state[cell] == WHOLE || state[cell] == BURNING) {
                return false;
            }
            state[cell] = WHOLE;
            wood[cell] = newWood;
            ward[cell] = newWard;
            fuel[cell] = newWood;
            warmth[cell] = 0;
            wet[cell] = 0;
            return true;
        }

        int tally(int wanted) {
            int found = 0;
            for (int cell = 0; cell < size; cell++) {
                if (state[cell] == wanted) {
                    found++;
                }
            }
            return found;
        }

        boolean burns(int cell) {
            return has(cell) && state[cell] == BURNING;
        }

        boolean burningBeside(int cell) {
            for (int side = 0; side < SIDES; side++) {
                if (burns(beside[SIDES * cell + side])) {
                    return true;
                }
            }
            return false;
        }

        boolean wellNear(int place) {
            for (int cell = 0; cell < size; cell++) {
                if (dug[cell] && far(cell, place) <= WELL_REACHES) {
                    return true;
                }
            }
            return false;
        }

        /** Puts what begins to burn into the row, rising, and answers how many those are. */
        int warmUp(int[] begun) {
            for (int cell = 0; cell < size; cell++) {
                if (state[cell] == WHOLE) {
                    warmth[cell] = Math.max(0, warmth[cell] + heatAt(cell) - 1);
                }
            }
            // A second round, so that what begins to burn now warms nothing yet.
            int found = 0;
            for (int cell = 0; cell < size && found < begun.length; cell++) {
                if (state[cell] == WHOLE && warmth[cell] >= CATCHES_FIRE) {
                    state[cell] = BURNING;
                    begun[found] = cell;
                    found++;
                }
            }
            return found;
        }

        private int heatAt(int cell) {
            int heat = 0;
            for (int side = 0; side < SIDES; side++) {
                if (burns(beside[SIDES * cell + side])) {
                    heat += blows == windFrom(side) ? 4 : 2;
                }
            }
            return heat;
        }

        /** The WIND that blows from what is beside a CELL on that side towards the CELL. */
        private static int windFrom(int side) {
            switch (side) {
                case 0: return 3;
                case 1: return 2;
                case 2: return 4;
                default: return 1;
            }
        }
    }

    /** The COMPANIES. */
    private static final class Crews {
        final int[] ward = new int[MOST_CREWS];
        final int[] men = new int[MOST_CREWS];
        final int[] place = new int[MOST_CREWS];
        final int[] goal = new int[MOST_CREWS];
        final boolean[] pulls = new boolean[MOST_CREWS];
        final int[] paid = new int[MOST_CREWS];
        final int[] quarrels = new int[MOST_CREWS];
        final int[] saved = new int[MOST_CREWS];
        int size;

        boolean has(int crew) {
            return crew >= 0 && crew < size;
        }

        int enlist(int ofWard, int withMen, int cell) {
            if (size >= MOST_CREWS) {
                return NONE;
            }
            ward[size] = ofWard;
            men[size] = withMen;
            place[size] = cell;
            goal[size] = NONE;
            size++;
            return size - 1;
        }

        void forget(int cell) {
            for (int crew = 0; crew < size; crew++) {
                if (goal[crew] == cell) {
                    goal[crew] = NONE;
                    pulls[crew] = false;
                }
            }
        }

        int bound(int cell) {
            int found = 0;
            for (int crew = 0; crew < size; crew++) {
                if (goal[crew] == cell) {
                    found++;
                }
            }
            return found;
        }

        int allQuarrels() {
            int sum = 0;
            for (int crew = 0; crew < size; crew++) {
                sum += quarrels[crew];
            }
            return sum;
        }
    }

    /** The bytes that wait to be a LAW's text. */
    private static final class Tape {
        final byte[] bytes = new byte[MOST_BYTES];
        int size;

        void put(int four) {
            for (int shift = 24; shift >= 0 && size < bytes.length; shift -= 8) {
                bytes[size] = (byte) (four >> shift);
                size++;
            }
        }
    }

    /** The LAWS, one behind the other in one row. */
    private static final class LawBook {
        final int[] code = new int[MOST_LAWS * MOST_BYTES];
        final int[] end = new int[MOST_LAWS];
        private final int[] day = new int[MOST_LAWS];
        int size;

        int enter(int[] text, int length, int fromDay) {
            int begin = begin(size);
            if (size >= MOST_LAWS || length > text.length || length > code.length - begin) {
                return BOOK_IS_FULL;
            }
            System.arraycopy(text, 0, code, begin, length);
            end[size] = begin + length;
            day[size] = fromDay;
            size++;
            return size - 1;
        }

        int begin(int number) {
            return number > 0 && number <= end.length ? end[number - 1] : 0;
        }

        int inForce(int today) {
            int best = NONE;
            for (int i = 0; i < size; i++) {
                if (day[i] <= today && (best == NONE || day[i] >= day[best])) {
                    best = i;
                }
            }
            return best;
        }
    }

    /** The TOKENS of a text, with where each begins; the last is its END. */
    private static final class Tokens {
        final int[] token = new int[MOST_BYTES + 1];
        final int[] place = new int[MOST_BYTES + 1];
        int size;
        private final byte[] text;
        private int length;
        private int next;

        Tokens(byte[] theText) {
            text = theText;
        }

        void scan(int n) {
            length = Math.min(n, text.length);
            next = 0;
            size = 0;
            for (int i = 0; i < MOST_BYTES; i++) {
                while (next < length && (text[next] == ' ' || text[next] == '\n')) {
                    next++;
                }
                if (next >= length) {
                    break;
                }
                int start = next;
                add(start, takeToken(start));
            }
            add(length, END);
        }

        private void add(int start, int found) {
            if (size < token.length) {
                token[size] = found;
                place[size] = start;
                size++;
            }
        }

        private int takeToken(int start) {
            if (letterAt(start)) {
                return takeWord(start);
            }
            if (digitAt(start)) {
                return takeNumber(start);
            }
            next = start + 1;
            return signAt(start);
        }

        private boolean letterAt(int at) {
            return text[at] >= 'a' && text[at] <= 'z';
        }

        private boolean digitAt(int at) {
            return text[at] >= '0' && text[at] <= '9';
        }

        private int takeNumber(int start) {
            int number = 0;
            while (next < length && digitAt(next)) {
                if (next - start < MOST_DIGITS) {
                    number = 10 * number + text[next] - '0';
                }
                next++;
            }
            return next - start > MOST_DIGITS ? LONG_NUMBER : number;
        }

        private int takeWord(int start) {
            while (next < length && letterAt(next)) {
                next++;
            }
            int word = keyword(start);
            return word == OTHER_WORD ? nameWord(start) : word;
        }

        private int keyword(int start) {
            if (wordIs("call", start)) {
                return CALL;
            }
            if (wordIs("pay", start)) {
                return PAY;
            }
            if (wordIs("and", start)) {
                return AND;
            }
            if (wordIs("or", start)) {
                return OR;
            }
            return wordIs("not", start) ? NOT : OTHER_WORD;
        }

        private int nameWord(int start) {
            if (wordIs("ward", start)) {
                return WARD;
            }
            if (wordIs("wood", start)) {
                return WOOD;
            }
            if (wordIs("fuel", start)) {
                return FUEL;
            }
            if (wordIs("own", start)) {
                return OWN;
            }
            if (wordIs("men", start)) {
                return MEN;
            }
            if (wordIs("far", start)) {
                return FAR;
            }
            if (wordIs("hour", start)) {
                return HOUR;
            }
            return wordIs("fires", start) ? FIRES : OTHER_WORD;
        }

        private boolean wordIs(String word, int start) {
            if (word.length() != next - start) {
                return false;
            }
            for (int i = 0; i < word.length(); i++) {
                if (text[start + i] != word.charAt(i)) {
                    return false;
                }
            }
            return true;
        }

        private int signAt(int at) {
            switch (text[at]) {
                case '(': return OPEN;
                case ')': return CLOSE;
                case ';': return SEMICOLON;
                case '+': return PLUS;
                case '-': return MINUS;
                case '*': return TIMES;
                case '<': return LESS;
                case '=': return SAME;
                default: return NO_TOKEN;
            }
        }
    }

    /** Turns a text's TOKENS into a row in which each sign stands behind what it joins. */
    private static final class LawReader {
        final int[] code = new int[MOST_BYTES];
        int size;
        int wrong;
        private final Tokens tokens;
        private int at;
        /** The TOKEN that is looked at; that of the FAULT, if there is one. */
        private int now;

        LawReader(byte[] text) {
            tokens = new Tokens(text);
        }

        /** Whether the text's first n bytes are a LAW. */
        boolean reads(int n) {
            tokens.scan(n);
            at = 0;
            now = tokens.token[0];
            size = 0;
            wrong = 0;
            int rules = 0;
            while (now != END && rules <= MOST_RULES) {
                if (!readRule(rules)) {
                    return false;
                }
                rules++;
            }
            return true;
        }

        int place() {
            return tokens.place[at];
        }

        private boolean readRule(int rulesBefore) {
            if (now != CALL && now != PAY) {
                return fail(CANNOT_STAND);
            }
            if (rulesBefore >= MOST_RULES) {
                return fail(TOO_MUCH);
            }
            int rule = now;
            advance();
            if (!readExpr(0)) {
                return false;
            }
            if (now != SEMICOLON) {
                return fail(CANNOT_STAND);
            }
            emit(rule);
            advance();
            return true;
        }

        private boolean readExpr(int within) {
            if (within >= MOST_DEPTH) {
                return fail(now == NOT || beginsPart() ? TOO_MUCH : faultOfPart());
            }
            if (!readTest(within)) {
                return false;
            }
            for (int i = 0; i < MOST_BYTES && (now == AND || now == OR); i++) {
                int joint = now;
                advance();
                if (!readTest(within)) {
                    return false;
                }
                emit(joint);
            }
            return true;
        }

        private boolean readTest(int within) {
            boolean not = now == NOT;
            if (not) {
                advance();
            }
            if (!readSum(within)) {
                return false;
            }
            if (now == LESS || now == SAME) {
                int joint = now;
                advance();
                if (!readSum(within)) {
                    return false;
                }
                emit(joint);
            }
            if (not) {
                emit(NOT);
            }
            return true;
        }

        private boolean readSum(int within) {
            if (!readPart(within)) {
                return false;
            }
            for (int i = 0; i < MOST_BYTES && (now == PLUS || now == MINUS || now == TIMES); i++) {
                int joint = now;
                advance();
                if (!readPart(within)) {
                    return false;
                }
                emit(joint);
            }
            return true;
        }

        private boolean readPart(int within) {
            if (now == OPEN) {
                advance();
                if (!readExpr(within + 1)) {
                    return false;
                }
                if (now != CLOSE) {
                    return fail(CANNOT_STAND);
                }
            } else if (isNumberOrName()) {
                emit(now);
            } else {
                return fail(faultOfPart());
            }
            advance();
            return true;
        }

        private boolean isNumberOrName() {
            return now >= 0 || now <= WARD && now >= FIRES;
        }

        private boolean beginsPart() {
            return now == OPEN || now == LONG_NUMBER || isNumberOrName();
        }

        /** What is wrong with a TOKEN that is no good PART; a word is no NAME, whatever else it is. */
        private int faultOfPart() {
            if (now == LONG_NUMBER) {
                return TOO_MUCH;
            }
            return now <= CALL && now >= OTHER_WORD ? NO_NAME : CANNOT_STAND;
        }

        private boolean fail(int fault) {
            wrong = fault;
            return false;
        }

        private void emit(int token) {
            if (size < code.length) {
                code[size] = token;
                size++;
            }
        }

        private void advance() {
            if (at + 1 < tokens.size) {
                at++;
                now = tokens.token[at];
            }
        }
    }

    /** Reckons what a LAW says of one COMPANY and one HOUSE. */
    private static final class Judge {
        // An EXPR leaves at most three numbers waiting for the one within it.
        private static final int MOST_WAITING = 3 * MOST_DEPTH + 2;

        boolean calls;
        int pays;
        private final int[] known = new int[NAMES];
        private final int[] waiting = new int[MOST_WAITING];
        private int top;

        void learn(int name, int value) {
            int i = WARD - name;
            if (i >= 0 && i < known.length) {
                known[i] = value;
            }
        }

        void apply(LawBook book, int law) {
            calls = false;
            pays = 0;
            top = 0;
            if (law < 0 || law >= book.size) {
                return;
            }
            for (int i = book.begin(law); i < book.end[law] && i < book.code.length; i++) {
                take(book.code[i]);
            }
        }

        private void take(int token) {
            int name = WARD - token;
            if (token >= 0) {
                push(token);
            } else if (name >= 0 && name < known.length) {
                push(known[name]);
            } else if (token == CALL) {
                calls = pop() != 0 || calls;
            } else if (token == PAY) {
                pays += pop();
            } else if (token == NOT) {
                push(pop() == 0 ? 1 : 0);
            } else {
                int right = pop();
                int left = pop();
                push(join(token, left, right));
            }
        }

        private static int join(int joint, int left, int right) {
            switch (joint) {
                case PLUS: return left + right;
                case MINUS: return left - right;
                case TIMES: return left * right;
                case LESS: return left < right ? 1 : 0;
                case SAME: return left == right ? 1 : 0;
                case AND: return left != 0 && right != 0 ? 1 : 0;
                default: return left != 0 || right != 0 ? 1 : 0;
            }
        }

        private void push(int value) {
            if (top < waiting.length) {
                waiting[top] = value;
                top++;
            }
        }

        private int pop() {
            if (top <= 0) {
                return 0;
            }
            top--;
            return waiting[top];
        }
    }

    /** The ways of COMPANIES round what is burning. */
    private static final class Ways {
        private final City city;
        private final int[] steps;
        private final int[] queue;
        private int queued;

        Ways(City theCity) {
            city = theCity;
            steps = new int[theCity.size];
            queue = new int[theCity.size];
        }

        int stepTowards(int place, int goal) {
            reckonSteps(goal);
            int best = place;
            int fewest = city.size;
            for (int side = 0; side < SIDES; side++) {
                int cell = city.beside[SIDES * place + side];
                if (city.has(cell) && steps[cell] != NONE && steps[cell] < fewest) {
                    fewest = steps[cell];
                    best = cell;
                }
            }
            return best;
        }

        /** From each CELL that may be stepped into, how many steps lead to one BESIDE the GOAL. */
        private void reckonSteps(int goal) {
            Arrays.fill(steps, NONE);
            queued = 0;
            spread(goal, goal, 0);
            for (int head = 0; head < queued && head < queue.length; head++) {
                int cell = queue[head];
                spread(cell, goal, steps[cell] + 1);
            }
        }

        private void spread(int from, int goal, int count) {
            for (int side = 0; side < SIDES; side++) {
                int cell = city.beside[SIDES * from + side];
                if (city.has(cell) && cell != goal && steps[cell] == NONE
                        && city.state[cell] != BURNING && queued < queue.length) {
                    steps[cell] = count;
                    queue[queued] = cell;
                    queued++;
                }
            }
        }
    }

    /**
     * The BREAK. As many rows of WHOLE HOUSES without one in common as can be lead from the fire to
     * the told HOUSE; the fewest that must be pulled down are as many (Menger). Every HOUSE is
     * entered at one node and left at another, with one row at most in between.
     */
    private static final class FireBreak {
        private static final int UNSEEN = -1;
        private static final int FIRE = -2;
        private static final int TOLD = -3;

        final int[] kept = new int[SIDES];
        int keptSize;
        private final City city;
        private final int size;
        private final boolean[] stands;
        private final boolean[] menaced;
        private final boolean[] carries;
        private final int[] before;
        private final int[] after;
        /** Node c: where HOUSE c is entered, size + c: where it is left. */
        private final int[] cameFrom;
        private final int[] queue;
        private int queued;
        private int told;

        FireBreak(City theCity) {
            city = theCity;
            size = theCity.size;
            stands = new boolean[size];
            menaced = new boolean[size];
            carries = new boolean[size];
            before = new int[size];
            after = new int[size];
            cameFrom = new int[2 * size];
            queue = new int[2 * size];
        }

        /** For a WHOLE HOUSE that is not BESIDE a BURNING one. */
        void plan(int house) {
            told = house;
            keptSize = 0;
            for (int cell = 0; cell < size; cell++) {
                stands[cell] = city.state[cell] == WHOLE && cell != house;
                menaced[cell] = stands[cell] && city.burningBeside(cell);
                carries[cell] = false;
            }
            int rows = 0;
            while (rows < SIDES && addRow()) {
                rows++;
            }
            for (int cell = 0; cell < size && keptSize < rows; cell++) {
                if (isInSomeBreak(cell)) {
                    keep(cell);
                }
            }
        }

        private boolean addRow() {
            int last = search(NONE);
            if (last == NONE) {
                return false;
            }
            after[last] = TOLD;
            int node = size + last;
            // A search sees each node once, so the way back is no longer than there are nodes.
            for (int i = 0; i < 2 * size && node >= 0 && node < 2 * size; i++) {
                int from = cameFrom[node];
                turn(from, node);
                node = from;
            }
            return true;
        }

        /** Takes one step of a found row over into those that there are. */
        private void turn(int from, int node) {
            if (node >= size) {
                // From the entry of another HOUSE it takes a step back: both ends get new partners.
                if (from == node - size) {
                    carries[from] = true;
                }
            } else if (from < size) {
                before[node] = FIRE;
            } else if (from - size == node) {
                carries[node] = false;
            } else {
                before[node] = from - size;
                after[from - size] = node;
            }
        }

        /** The last HOUSE of one row more, told to begin at the extra one's entry too; or NONE. */
        private int search(int extra) {
            Arrays.fill(cameFrom, UNSEEN);
            queued = 0;
            for (int cell = 0; cell < size; cell++) {
                if (menaced[cell]) {
                    see(cell, FIRE);
                }
            }
            if (city.has(extra)) {
                see(extra, FIRE);
            }
            for (int head = 0; head < queued && head < queue.length; head++) {
                int node = queue[head];
                if (node < size) {
                    goOnFromEntry(node);
                } else if (goOnFromExit(node - size)) {
                    return node - size;
                }
            }
            return NONE;
        }

        private void goOnFromEntry(int cell) {
            if (!carries[cell]) {
                see(size + cell, cell);
            } else if (city.has(before[cell])) {
                see(size + before[cell], cell);
            }
        }

        private boolean goOnFromExit(int cell) {
            for (int side = 0; side < SIDES; side++) {
                int other = city.beside[SIDES * cell + side];
                if (other == told) {
                    return true;
                }
                if (city.has(other) && stands[other]) {
                    see(other, size + cell);
                }
            }
            if (carries[cell]) {
                see(cell, size + cell);
            }
            return false;
        }

        private void see(int node, int from) {
            if (cameFrom[node] == UNSEEN && queued < queue.length) {
                cameFrom[node] = from;
                queue[queued] = node;
                queued++;
            }
        }

        /**
         * It is, if a row goes through it and nothing leads round it: neither to the told one nor
         * to its own exit.
         */
        private boolean isInSomeBreak(int cell) {
            return carries[cell] && search(cell) == NONE && cameFrom[size + cell] == UNSEEN;
        }

        private void keep(int cell) {
            if (keptSize >= kept.length) {
                return;
            }
            kept[keptSize] = cell;
            keptSize++;
            int back = before[cell];
            for (int i = 0; i < size && city.has(back); i++) {
                carries[back] = false;
                back = before[back];
            }
            int on = after[cell];
            for (int i = 0; i < size && city.has(on); i++) {
                carries[on] = false;
                on = after[on];
            }
            carries[cell] = false;
            stands[cell] = false;
            menaced[cell] = false;
        }
    }
}
