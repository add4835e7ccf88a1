/** A port whose poor sleep under pancakes; ../shared/DOC.md says what each call answers. */
public final class PancakePort {
    public static final int NONE = -1, UNKNOWN = -101, OUTSIDE = -102, STATE = -103, FULL = -104;

    private static final int SIDE = 6, CELLS = 36;
    private static final int MOST_SLEEPERS = 6, MOST_TOSSERS = 4;
    private static final int MOST_TOSSES = 144, CROWDS = 64;
    private static final int TURNS = 5, STRAIGHT = 2;
    private static final int MOST_LETTERS = 36, LAST_CODE = 126;
    private static final int FIRST_BATTER = 60, MOST_BATTER = 99, MOST_STIRRED = 60;
    private static final int MOST_COUNTED = 999, MOST_SEEN = 6, MOST_SEASONS = 60;
    private static final int FIRST_OF_PLAN = 10, LAST_OF_PLAN = 15;
    private static final int TOSSER = 0, LACY = 1, WIDE = 2, THRIFTY = 3, MAYOR = 4;
    private static final String KIND_LETTERS = "tlwhm";

    private final Page page = new Page();
    private final Reading reading = new Reading();
    private final Tosser[] tossers = new Tosser[MOST_TOSSERS];
    private final Night now = new Night();
    private final Night kept = new Night();
    private final Plan plan = new Plan();
    private final int[] chances = new int[CELLS];
    private int sleeperCount;
    private int tosserCount;
    private int portsRead;
    private boolean imageKept;

    public PancakePort() {
    }

    // ---- the port

    public int letter(int code) {
        if (code < 1 || code > LAST_CODE) {
            return OUTSIDE;
        }
        if (page.length >= MOST_LETTERS) {
            return FULL;
        }
        page.append(code);
        return page.length;
    }

    public int blank() {
        int had = page.length;
        page.length = 0;
        return had;
    }

    public int fault() {
        return reading.read(page);
    }

    public int port() {
        if (reading.read(page) < page.length || !reading.isWhole()) {
            return STATE;
        }
        settle();
        page.length = 0;
        portsRead++;
        return sleeperCount;
    }

    public int sleeper(int sleeper, int what) {
        if (!isSleeper(sleeper)) {
            return UNKNOWN;
        }
        switch (what) {
            case 0: return at(now.cells, sleeper);
            case 1: return now.covered >> sleeper & 1;
            case 2: return at(now.breakfasts, sleeper);
            case 3: return at(now.colds, sleeper);
            case 4: return bestPlaceFor(sleeper);
            default: return OUTSIDE;
        }
    }

    public int tosser(int tosser, int what) {
        Tosser asked = tosserAt(tosser);
        if (asked == null) {
            return UNKNOWN;
        }
        switch (what) {
            case 0: return asked.kind();
            case 1: return at(now.souths, tosser);
            case 2: return at(now.easts, tosser);
            case 3: return asked.batter();
            case 4: return bestAimOf(tosser);
            case 5: return freshOf(tosser, bestAimOf(tosser));
            case 6: return now.seen.turnsOf(tosser);
            case 7: return tellingAim(now.seen.turnsOf(tosser));
            case 8: return at(now.thrown, tosser);
            default: return OUTSIDE;
        }
    }

    public int as(int tosser, int kind) {
        Tosser asked = tosserAt(tosser);
        if (asked == null) {
            return UNKNOWN;
        }
        if (kind < TOSSER || kind > MAYOR) {
            return OUTSIDE;
        }
        return isOfKind(asked, kind) ? tosser : NONE;
    }

    public int lands(int tosser, int cell) {
        if (!isToss(tosser, cell)) {
            return UNKNOWN;
        }
        return landing(tosser, cell, now.wind);
    }

    public int covers(int tosser, int cell) {
        if (!isToss(tosser, cell)) {
            return UNKNOWN;
        }
        return crowdUnder(tosser, cell, now.wind);
    }

    // ---- what is done

    public int toss(int tosser, int cell) {
        Tosser thrower = tosserAt(tosser);
        if (thrower == null || !isCell(cell)) {
            return UNKNOWN;
        }
        if (now.batter < thrower.batter()) {
            return STATE;
        }
        if (now.tosses >= MOST_COUNTED) {
            return FULL;
        }
        int fresh = crowdUnder(tosser, cell, now.wind) & ~now.covered;
        now.covered |= fresh;
        now.batter -= thrower.batter();
        now.tosses++;
        put(now.thrown, tosser, at(now.thrown, tosser) + 1);
        return Integer.bitCount(fresh);
    }

    public int wind(int wind) {
        if (wind < -1 || wind > 1) {
            return OUTSIDE;
        }
        if (!hasPort()) {
            return STATE;
        }
        int was = now.wind + 1;
        now.wind = wind;
        return was;
    }

    public int morning() {
        if (!hasPort()) {
            return STATE;
        }
        if (now.mornings >= MOST_COUNTED) {
            return FULL;
        }
        int warm = Integer.bitCount(now.covered);
        now.wake(sleeperCount);
        return warm;
    }

    public int move(int sleeper, int cell) {
        if (!isSleeper(sleeper) || !isCell(cell)) {
            return UNKNOWN;
        }
        if (isTakenByAnother(cell, sleeper)) {
            return STATE;
        }
        int was = at(now.cells, sleeper);
        put(now.cells, sleeper, cell);
        now.covered &= ~(1 << sleeper);
        return was;
    }

    public int train(int tosser, int south, int east) {
        if (tosserAt(tosser) == null) {
            return UNKNOWN;
        }
        if (!isTurn(south) || !isTurn(east)) {
            return OUTSIDE;
        }
        int was = at(now.easts, tosser);
        put(now.souths, tosser, south);
        put(now.easts, tosser, east);
        return was;
    }

    public int stir(int much) {
        if (much < 1 || much > MOST_STIRRED) {
            return OUTSIDE;
        }
        if (!hasPort()) {
            return STATE;
        }
        if (now.batter + much > MOST_BATTER) {
            return FULL;
        }
        now.batter += much;
        return now.batter;
    }

    // ---- what would be

    public int all(int what) {
        boolean isPlace = what >= FIRST_OF_PLAN && what <= LAST_OF_PLAN;
        if (what != 0 && what != 1 && !isPlace) {
            return OUTSIDE;
        }
        if (!hasPort()) {
            return STATE;
        }
        planFor(everybody() & ~now.covered);
        return plan.tell(what);
    }

    public int nights() {
        if (!hasPort()) {
            return STATE;
        }
        planFor(everybody());
        int batter = plan.tell(0);
        return batter > 0 ? now.batter / batter : NONE;
    }

    public int odds(int sleeper, int tosser, int cell) {
        if (!isSleeper(sleeper) || !isToss(tosser, cell)) {
            return UNKNOWN;
        }
        int covering = 0;
        for (int wind = -1; wind <= 1; wind++) {
            covering += crowdUnder(tosser, cell, wind) >> sleeper & 1;
        }
        return covering;
    }

    public int who(int cell) {
        if (!isCell(cell)) {
            return UNKNOWN;
        }
        int able = 0;
        for (int tosser = 0; tosser < tosserCount; tosser++) {
            if (canLandAt(tosser, cell)) {
                able |= 1 << tosser;
            }
        }
        return able;
    }

    // ---- what is seen

    public int see(int tosser, int aim, int column) {
        if (tosserAt(tosser) == null) {
            return UNKNOWN;
        }
        if (!isColumn(aim) || column != NONE && !isColumn(column)) {
            return OUTSIDE;
        }
        if (now.seen.count >= MOST_SEEN) {
            return FULL;
        }
        now.seen.add(tosser, aim, column);
        return now.seen.count;
    }

    public int forget() {
        int was = now.seen.count;
        now.seen.count = 0;
        return was;
    }

    public int seasons(int times, int seed, int what) {
        if (times < 1 || times > MOST_SEASONS || seed < 0 || what < 0 || what > 2) {
            return OUTSIDE;
        }
        if (!hasPort()) {
            return STATE;
        }
        int drawn = seed;
        int together = 0;
        int ever = 0;
        for (int time = 0; time < times; time++) {
            drawn = nextSeed(drawn);
            int wind = draw(drawn, 3) - 1;
            drawn = nextSeed(drawn);
            int tosser = draw(drawn, tosserCount);
            drawn = nextSeed(drawn);
            int crowd = crowdUnder(tosser, draw(drawn, CELLS), wind);
            together += Integer.bitCount(crowd);
            ever |= crowd;
        }
        if (what == 2) {
            return drawn;
        }
        return what == 0 ? together : Integer.bitCount(ever);
    }

    // ---- what is told of all

    public int image() {
        if (!hasPort()) {
            return STATE;
        }
        kept.takeFrom(now);
        imageKept = true;
        return now.mornings;
    }

    public int restore() {
        if (!imageKept) {
            return STATE;
        }
        now.takeFrom(kept);
        return now.mornings;
    }

    public int count(int what) {
        switch (what) {
            case 0: return sleeperCount;
            case 1: return tosserCount;
            case 2: return Integer.bitCount(now.covered);
            case 3: return now.batter;
            case 4: return now.wind + 1;
            case 5: return now.mornings;
            case 6: return sum(now.breakfasts);
            case 7: return sum(now.colds);
            case 8: return now.tosses;
            case 9: return now.seen.count;
            case 10: return page.length;
            case 11: return portsRead;
            default: return OUTSIDE;
        }
    }

    public long digest() {
        long hash = 1217;
        for (int sleeper = 0; sleeper < sleeperCount; sleeper++) {
            for (int what = 0; what <= 4; what++) {
                hash = 31 * hash + sleeper(sleeper, what);
            }
        }
        for (int tosser = 0; tosser < tosserCount; tosser++) {
            for (int what = 0; what <= 8; what++) {
                hash = 31 * hash + tosser(tosser, what);
            }
            hash = 31 * hash + lands(tosser, 14);
            hash = 31 * hash + covers(tosser, 14);
        }
        if (hasPort()) {
            hash = digestOfPlans(hash);
        }
        for (int place = 0; place < page.length; place++) {
            hash = 31 * hash + at(page.codes, place);
        }
        for (int what = 0; what <= 11; what++) {
            hash = 31 * hash + count(what);
        }
        return hash;
    }

    private long digestOfPlans(long before) {
        long hash = before;
        // One plan answers all eight calls of all(): nothing is done between them.
        planFor(everybody() & ~now.covered);
        hash = 31 * hash + plan.tell(0);
        hash = 31 * hash + plan.tell(1);
        for (int what = FIRST_OF_PLAN; what <= LAST_OF_PLAN; what++) {
            hash = 31 * hash + plan.tell(what);
        }
        hash = 31 * hash + nights();
        hash = 31 * hash + who(0);
        return 31 * hash + who(21);
    }

    // ---- what there is

    private boolean hasPort() {
        return sleeperCount > 0;
    }

    // A cell is one of a port's square: without a port no number names one.
    private boolean isCell(int cell) {
        return hasPort() && cell >= 0 && cell < CELLS;
    }

    private boolean isSleeper(int sleeper) {
        return sleeper >= 0 && sleeper < sleeperCount;
    }

    private Tosser tosserAt(int tosser) {
        boolean there = tosser >= 0 && tosser < tosserCount && tosser < tossers.length;
        return there ? tossers[tosser] : null;
    }

    private boolean isToss(int tosser, int cell) {
        return tosserAt(tosser) != null && isCell(cell);
    }

    private int everybody() {
        return (1 << sleeperCount) - 1;
    }

    private boolean isTakenByAnother(int cell, int sleeper) {
        for (int other = 0; other < sleeperCount; other++) {
            if (other != sleeper && at(now.cells, other) == cell) {
                return true;
            }
        }
        return false;
    }

    private void settle() {
        sleeperCount = reading.sleepers;
        tosserCount = reading.tossers;
        imageKept = false;
        now.begin(reading);
        for (int tosser = 0; tosser < tosserCount && tosser < tossers.length; tosser++) {
            tossers[tosser] = tosserOf(at(reading.kinds, tosser));
        }
    }

    // ---- where a toss lands, and whom it covers

    private int landing(int tosser, int cell, int wind) {
        int row = cell / SIDE + at(now.souths, tosser) - STRAIGHT;
        int column = cell % SIDE + at(now.easts, tosser) - STRAIGHT + wind;
        return cellAt(row, column);
    }

    private int crowdUnder(int tosser, int cell, int wind) {
        Tosser thrower = tosserAt(tosser);
        int landed = landing(tosser, cell, wind);
        if (thrower == null || landed == NONE) {
            return 0;
        }
        int crowd = 0;
        for (int sleeper = 0; sleeper < sleeperCount; sleeper++) {
            int lies = at(now.cells, sleeper);
            if (thrower.spreads(lies / SIDE - landed / SIDE, lies % SIDE - landed % SIDE)) {
                crowd |= 1 << sleeper;
            }
        }
        return crowd;
    }

    private boolean canLandAt(int tosser, int cell) {
        for (int aim = 0; aim < CELLS; aim++) {
            if (landing(tosser, aim, now.wind) == cell) {
                return true;
            }
        }
        return false;
    }

    private int freshOf(int tosser, int cell) {
        return Integer.bitCount(crowdUnder(tosser, cell, now.wind) & ~now.covered);
    }

    private int bestAimOf(int tosser) {
        int best = 0;
        int most = freshOf(tosser, 0);
        for (int cell = 1; cell < CELLS; cell++) {
            int fresh = freshOf(tosser, cell);
            if (fresh > most) {
                most = fresh;
                best = cell;
            }
        }
        return best;
    }

    private void planFor(int need) {
        plan.begin();
        for (int tosser = 0; tosser < tosserCount; tosser++) {
            Tosser thrower = tosserAt(tosser);
            int batter = thrower == null ? 0 : thrower.batter();
            for (int cell = 0; cell < CELLS; cell++) {
                int crowd = crowdUnder(tosser, cell, now.wind) & need;
                plan.offer(CELLS * tosser + cell, crowd, batter);
            }
        }
        plan.solve(need);
        plan.choose(need);
    }

    // ---- where to lie

    private int bestPlaceFor(int sleeper) {
        countChances();
        int best = NONE;
        int most = -1;
        for (int cell = 0; cell < CELLS; cell++) {
            int chance = at(chances, cell);
            if (chance > most && !isTakenByAnother(cell, sleeper)) {
                most = chance;
                best = cell;
            }
        }
        return best;
    }

    private void countChances() {
        clear(chances);
        for (int tosser = 0; tosser < tosserCount; tosser++) {
            Tosser thrower = tosserAt(tosser);
            for (int cell = 0; cell < CELLS; cell++) {
                int landed = landing(tosser, cell, now.wind);
                if (thrower != null && landed != NONE) {
                    addChances(thrower, landed);
                }
            }
        }
    }

    private void addChances(Tosser thrower, int landed) {
        for (int south = -1; south <= 1; south++) {
            for (int east = -1; east <= 1; east++) {
                int cell = cellAt(landed / SIDE + south, landed % SIDE + east);
                if (cell != NONE && thrower.spreads(south, east)) {
                    put(chances, cell, at(chances, cell) + 1);
                }
            }
        }
    }

    // ---- columns, turns and draws

    private static boolean isColumn(int column) {
        return column >= 0 && column < SIDE;
    }

    private static boolean isTurn(int turn) {
        return turn >= 0 && turn < TURNS;
    }

    private static int cellAt(int row, int column) {
        boolean inSquare = row >= 0 && row < SIDE && column >= 0 && column < SIDE;
        return inSquare ? SIDE * row + column : NONE;
    }

    private static int columnBy(int aim, int turn) {
        int column = aim + turn - STRAIGHT;
        return isColumn(column) ? column : NONE;
    }

    private static int tellingAim(int turns) {
        if (turns == 0) {
            return NONE;
        }
        int best = 0;
        int fewest = mostLeft(turns, 0);
        for (int aim = 1; aim < SIDE; aim++) {
            int left = mostLeft(turns, aim);
            if (left < fewest) {
                fewest = left;
                best = aim;
            }
        }
        return best;
    }

    private static int mostLeft(int turns, int aim) {
        int most = 0;
        for (int column = NONE; column < SIDE; column++) {
            int left = 0;
            for (int turn = 0; turn < TURNS; turn++) {
                if ((turns >> turn & 1) == 1 && columnBy(aim, turn) == column) {
                    left++;
                }
            }
            most = Math.max(most, left);
        }
        return most;
    }

    private static int nextSeed(int seed) {
        return (int) ((1103515245L * seed + 12345L) % 2147483648L);
    }

    private static int draw(int seed, int choices) {
        return choices > 0 ? seed / 65536 % choices : 0;
    }

    // ---- rows, looked at before they are used

    private static int at(int[] row, int place) {
        return row != null && place >= 0 && place < row.length ? row[place] : 0;
    }

    private static void put(int[] row, int place, int value) {
        if (row != null && place >= 0 && place < row.length) {
            row[place] = value;
        }
    }

    private static void clear(int[] row) {
        for (int place = 0; row != null && place < row.length; place++) {
            row[place] = 0;
        }
    }

    private static void copy(int[] from, int[] to) {
        for (int place = 0; from != null && place < from.length; place++) {
            put(to, place, from[place]);
        }
    }

    private static int sum(int[] row) {
        int sum = 0;
        for (int place = 0; row != null && place < row.length; place++) {
            sum += row[place];
        }
        return sum;
    }

    // ---- the kinds

    private static Tosser tosserOf(int kind) {
        switch (kind) {
            case LACY: return new Lacy();
            case WIDE: return new Wide();
            case THRIFTY: return new Thrifty();
            case MAYOR: return new Mayor();
            default: return new Tosser();
        }
    }

    private static boolean isOfKind(Tosser tosser, int kind) {
        switch (kind) {
            case TOSSER: return tosser != null;
            case LACY: return tosser instanceof Lacy;
            case WIDE: return tosser instanceof Wide;
            case THRIFTY: return tosser instanceof Thrifty;
            case MAYOR: return tosser instanceof Mayor;
            default: return false;
        }
    }

    /** A plain one; the other kinds are made from it. */
    private static class Tosser {
        int kind() {
            return TOSSER;
        }

        int batter() {
            return 3;
        }

        /** Whether a pancake covers the cell that is so far southward and eastward of where it landed. */
        boolean spreads(int south, int east) {
            return Math.abs(south) + Math.abs(east) <= 1;
        }
    }

    private static final class Lacy extends Tosser {
        int kind() {
            return LACY;
        }

        int batter() {
            return 2;
        }

        boolean spreads(int south, int east) {
            return Math.abs(south) <= 1 && Math.abs(south) == Math.abs(east);
        }
    }

    private static class Wide extends Tosser {
        int kind() {
            return WIDE;
        }

        int batter() {
            return 5;
        }

        boolean spreads(int south, int east) {
            return Math.abs(south) <= 1 && Math.abs(east) <= 1;
        }
    }

    private static final class Thrifty extends Tosser {
        int kind() {
            return THRIFTY;
        }

        int batter() {
            return 1;
        }

        boolean spreads(int south, int east) {
            return south == 0 && Math.abs(east) <= 1;
        }
    }

    private static final class Mayor extends Wide {
        int kind() {
            return MAYOR;
        }

        int batter() {
            return 4;
        }

        boolean spreads(int south, int east) {
            return super.spreads(south, east) && (south != 0 || east != 0);
        }
    }

    /** The letters that came since the page was last empty. */
    private static final class Page {
        final int[] codes = new int[MOST_LETTERS];
        int length;

        void append(int code) {
            put(codes, length, code);
            length++;
        }
    }

    /** What the page tells of a port, letter by letter. */
    private static final class Reading {
        static final int ROW = 0, COLUMN = 1, AFTER_SLEEPER = 2, KIND = 3, SOUTH = 4, EAST = 5, AFTER_TOSSER = 6;

        final int[] cells = new int[MOST_SLEEPERS];
        final int[] kinds = new int[MOST_TOSSERS];
        final int[] souths = new int[MOST_TOSSERS];
        final int[] easts = new int[MOST_TOSSERS];
        int sleepers;
        int tossers;
        int row;
        int due;

        /** The place of the first letter that no port has there; the page's length, if there is none. */
        int read(Page page) {
            sleepers = 0;
            tossers = 0;
            due = ROW;
            int length = page == null ? 0 : page.length;
            for (int place = 0; place < length; place++) {
                if (!takes(at(page.codes, place))) {
                    return place;
                }
            }
            return length;
        }

        boolean isWhole() {
            return due == AFTER_TOSSER;
        }

        private boolean takes(int code) {
            switch (due) {
                case ROW: return takesRow(code - '0');
                case COLUMN: return takesColumn(code - '0');
                case AFTER_SLEEPER: return takesAfterSleeper(code);
                case KIND: return takesKind(code);
                case SOUTH: return takesSouth(code - '0');
                case EAST: return takesEast(code - '0');
                default: return takesAfterTosser(code);
            }
        }

        private boolean takesRow(int digit) {
            row = digit;
            due = COLUMN;
            return digit >= 0 && digit < SIDE;
        }

        private boolean takesColumn(int digit) {
            int cell = cellAt(row, digit);
            for (int other = 0; other < sleepers; other++) {
                if (at(cells, other) == cell) {
                    return false;
                }
            }
            put(cells, sleepers, cell);
            sleepers++;
            due = AFTER_SLEEPER;
            return cell != NONE;
        }

        private boolean takesAfterSleeper(int code) {
            due = code == ';' ? KIND : ROW;
            return code == ';' || code == ',' && sleepers < MOST_SLEEPERS;
        }

        private boolean takesKind(int code) {
            int kind = KIND_LETTERS.indexOf((char) code);
            put(kinds, tossers, kind);
            due = SOUTH;
            return kind >= 0;
        }

        private boolean takesSouth(int digit) {
            put(souths, tossers, digit);
            due = EAST;
            return isTurn(digit);
        }

        private boolean takesEast(int digit) {
            put(easts, tossers, digit);
            tossers++;
            due = AFTER_TOSSER;
            return isTurn(digit);
        }

        private boolean takesAfterTosser(int code) {
            due = KIND;
            return code == ',' && tossers < MOST_TOSSERS;
        }
    }

    /** All that an image keeps. */
    private static final class Night {
        final int[] cells = new int[MOST_SLEEPERS];
        final int[] breakfasts = new int[MOST_SLEEPERS];
        final int[] colds = new int[MOST_SLEEPERS];
        final int[] souths = new int[MOST_TOSSERS];
        final int[] easts = new int[MOST_TOSSERS];
        final int[] thrown = new int[MOST_TOSSERS];
        final Seen seen = new Seen();
        int covered;
        int wind;
        int batter;
        int mornings;
        int tosses;

        void begin(Reading reading) {
            if (reading == null) {
                return;
            }
            copy(reading.cells, cells);
            copy(reading.souths, souths);
            copy(reading.easts, easts);
            clear(breakfasts);
            clear(colds);
            clear(thrown);
            seen.count = 0;
            covered = 0;
            wind = 0;
            batter = FIRST_BATTER;
            mornings = 0;
            tosses = 0;
        }

        void wake(int sleepers) {
            for (int sleeper = 0; sleeper < sleepers; sleeper++) {
                int[] row = (covered >> sleeper & 1) == 1 ? breakfasts : colds;
                put(row, sleeper, at(row, sleeper) + 1);
            }
            covered = 0;
            mornings++;
        }

        void takeFrom(Night other) {
            if (other == null) {
                return;
            }
            copy(other.cells, cells);
            copy(other.breakfasts, breakfasts);
            copy(other.colds, colds);
            copy(other.souths, souths);
            copy(other.easts, easts);
            copy(other.thrown, thrown);
            seen.takeFrom(other.seen);
            covered = other.covered;
            wind = other.wind;
            batter = other.batter;
            mornings = other.mornings;
            tosses = other.tosses;
        }
    }

    /** In which columns tosses were seen to land. */
    private static final class Seen {
        final int[] throwers = new int[MOST_SEEN];
        final int[] aims = new int[MOST_SEEN];
        final int[] columns = new int[MOST_SEEN];
        int count;

        void add(int tosser, int aim, int column) {
            put(throwers, count, tosser);
            put(aims, count, aim);
            put(columns, count, column);
            count++;
        }

        int turnsOf(int tosser) {
            int turns = 0;
            for (int turn = 0; turn < TURNS; turn++) {
                if (allows(tosser, turn)) {
                    turns |= 1 << turn;
                }
            }
            return turns;
        }

        private boolean allows(int tosser, int turn) {
            for (int place = 0; place < count; place++) {
                boolean his = at(throwers, place) == tosser;
                if (his && columnBy(at(aims, place), turn) != at(columns, place)) {
                    return false;
                }
            }
            return true;
        }

        void takeFrom(Seen other) {
            if (other == null) {
                return;
            }
            copy(other.throwers, throwers);
            copy(other.aims, aims);
            copy(other.columns, columns);
            count = other.count;
        }
    }

    /** By which tosses a crowd (sleepers, as bits) is covered with least batter. */
    private static final class Plan {
        // A price is 16 times the batter, and the tosses: so the least price is least in batter, then in tosses.
        static final int PRICE_OF_BATTER = 16, NEVER = 1 << 20;

        final int[] crowds = new int[MOST_TOSSES];
        final int[] prices = new int[MOST_TOSSES];
        final int[] cheapest = new int[CROWDS];
        final int[] least = new int[CROWDS];
        final int[] chosen = new int[MOST_SLEEPERS];
        int chosenCount;
        int price;

        void begin() {
            clear(crowds);
            clear(prices);
            for (int crowd = 0; crowd < CROWDS; crowd++) {
                put(cheapest, crowd, NEVER);
            }
        }

        void offer(int toss, int crowd, int batter) {
            int one = PRICE_OF_BATTER * batter + 1;
            put(crowds, toss, crowd);
            put(prices, toss, one);
            put(cheapest, crowd, Math.min(one, at(cheapest, crowd)));
        }

        /** All crowds that were offered lie within the need. */
        void solve(int need) {
            put(least, 0, 0);
            for (int open = 1; open < CROWDS; open++) {
                // Only parts of the need can be left open.
                put(least, open, (open & ~need) == 0 ? leastPrice(open) : NEVER);
            }
            price = at(least, need);
        }

        private int leastPrice(int open) {
            int best = NEVER;
            for (int crowd = 1; crowd < CROWDS; crowd++) {
                if ((crowd & open) != 0 && at(cheapest, crowd) < NEVER) {
                    best = Math.min(best, at(cheapest, crowd) + at(least, open & ~crowd));
                }
            }
            return best;
        }

        // It goes by what solve() found of the same need.
        // Every toss of a cheapest row covers somebody whom the others don't, so none is in it twice,
        // and the least toss that any cheapest row has stands ahead in the first row.
        void choose(int need) {
            chosenCount = 0;
            int open = need;
            for (int place = 0; place < MOST_SLEEPERS && open != 0 && price < NEVER; place++) {
                int toss = firstFor(open);
                put(chosen, place, toss);
                chosenCount++;
                open &= ~at(crowds, toss);
            }
        }

        private int firstFor(int open) {
            for (int toss = 0; toss < MOST_TOSSES; toss++) {
                int crowd = at(crowds, toss);
                if ((crowd & open) != 0 && at(prices, toss) + at(least, open & ~crowd) == at(least, open)) {
                    return toss;
                }
            }
            return NONE;
        }

        int tell(int what) {
            if (price >= NEVER) {
                return NONE;
            }
            if (what == 0) {
                return price / PRICE_OF_BATTER;
            }
            if (what == 1) {
                return chosenCount;
            }
            int place = what - FIRST_OF_PLAN;
            return place >= 0 && place < chosenCount ? at(chosen, place) : NONE;
        }
    }
}
