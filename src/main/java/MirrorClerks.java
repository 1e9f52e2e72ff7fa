/**
 * A house of registered reflections: its mirrors, the clerks who look, the people who are entered.
 * What each call answers is told by the numbered promises of the document; README.md says where it is.
 */
public final class MirrorClerks {
    public static final int NONE = -1, UNKNOWN = -101, OUTSIDE = -102, STATE = -103, FULL = -104;

    private static final int CELLS = 12;
    private static final int COLUMNS = 4;
    private static final int WAYS = 4;
    private static final int CROWD = 3;
    private static final int LEDGER_STEPS = 8;
    private static final int PAGE_LETTERS = 18;
    private static final int HOUSE_LETTERS = 16;
    private static final int DEPTH_PLACE = 15;
    private static final int MOST_TILTS = 20;
    private static final int MOST_DAYS = 60;

    /** The signs by their numbers: what cell() tells of a FLOOR, of a WALL, of each KIND of MIRROR. */
    private static final String SIGNS = ".#mbfwv";
    private static final int FLOOR = 0, WALL = 1, MIRROR = 2, BACK = 3, FLAT = 4, WINDOW = 5;
    private static final int KINDS = 5;

    private final Page page = new Page();
    private final House home = new House();
    private final Scene scene = new Scene();
    private final Scene kept = new Scene();
    private final Sight sight = new Sight();
    private final Walk walks = new Walk();
    private final Rows rows = new Rows();
    private final Days future = new Days();
    private boolean isKept;
    private int housesRead;
    private int tiltsDone;

    public MirrorClerks() {
    }

    // ---- the house

    public int letter(int code) {
        if (code < 1 || code > 126) {
            return OUTSIDE;
        }
        if (page.letters >= PAGE_LETTERS) {
            return FULL;
        }
        page.add(code);
        return page.letters;
    }

    public int blank() {
        int had = page.letters;
        page.empty();
        return had;
    }

    public int fault() {
        return page.firstFault();
    }

    public int house() {
        if (!page.isHouse()) {
            return STATE;
        }
        home.read(page);
        page.empty();
        scene.empty();
        isKept = false;
        housesRead++;
        return home.floors();
    }

    public int cell(int cell, int what) {
        if (!home.has(cell)) {
            return UNKNOWN;
        }
        switch (what) {
            case 0:
                return home.signAt(cell);
            case 1:
                return clerksSeeing(cell, false);
            case 2:
                return clerksSeeing(cell, true);
            case 3:
                return scene.peopleAt(cell);
            default:
                return OUTSIDE;
        }
    }

    public int as(int cell, int kind) {
        if (!home.has(cell) || home.signAt(cell) < MIRROR) {
            return UNKNOWN;
        }
        if (kind < 0 || kind >= KINDS) {
            return OUTSIDE;
        }
        return isOfKind(home.signAt(cell), kind + MIRROR) ? cell : NONE;
    }

    public int dusk(boolean is) {
        if (!home.stands) {
            return STATE;
        }
        int was = oneIf(scene.isDusk);
        scene.isDusk = is;
        return was;
    }

    // ---- clerks, people

    public int clerk(int cell, int way) {
        if (!home.has(cell)) {
            return UNKNOWN;
        }
        if (!isWay(way)) {
            return OUTSIDE;
        }
        if (!home.isFloor(cell)) {
            return STATE;
        }
        if (scene.clerks >= CROWD) {
            return FULL;
        }
        return scene.addClerk(cell, way);
    }

    public int look(int clerk, int way) {
        if (!scene.hasClerk(clerk)) {
            return UNKNOWN;
        }
        if (!isWay(way)) {
            return OUTSIDE;
        }
        int was = at(scene.clerkWays, clerk);
        put(scene.clerkWays, clerk, way);
        return was;
    }

    public int clerkOf(int clerk, int what) {
        if (!scene.hasClerk(clerk)) {
            return UNKNOWN;
        }
        sight.ofClerk(home, scene, clerk, 0);
        switch (what) {
            case 0:
                return at(scene.clerkCells, clerk);
            case 1:
                return at(scene.clerkWays, clerk);
            case 2:
                return sight.seen;
            case 3:
                return sight.turns;
            default:
                return OUTSIDE;
        }
    }

    public int person(int cell) {
        if (!home.has(cell)) {
            return UNKNOWN;
        }
        if (!home.isFloor(cell)) {
            return STATE;
        }
        if (scene.people >= CROWD) {
            return FULL;
        }
        return scene.addPerson(cell);
    }

    public int personOf(int person, int what) {
        if (!scene.hasPerson(person)) {
            return UNKNOWN;
        }
        switch (what) {
            case 0:
                return at(scene.personCells, person);
            case 1:
                return at(scene.entries, person);
            default:
                return OUTSIDE;
        }
    }

    public int step(int person, int way) {
        if (!scene.hasPerson(person)) {
            return UNKNOWN;
        }
        if (!isWay(way)) {
            return OUTSIDE;
        }
        int next = home.floorBeside(at(scene.personCells, person), way);
        if (next == NONE) {
            return STATE;
        }
        put(scene.personCells, person, next);
        put(scene.entries, person, at(scene.entries, person) + bit(seenByAny(0), next));
        return next;
    }

    // ---- what would be

    public int walk(int person, int cell, int what) {
        if (!scene.hasPerson(person) || !home.has(cell)) {
            return UNKNOWN;
        }
        if (what < 0 || what > 2) {
            return OUTSIDE;
        }
        if (!home.isFloor(cell)) {
            return STATE;
        }
        walks.reckon(home, seenByAny(0), cell);
        int from = at(scene.personCells, person);
        if (!walks.leadsFrom(from)) {
            return NONE;
        }
        switch (what) {
            case 0:
                return walks.entriesFrom(from);
            case 1:
                return walks.stepsFrom(from);
            default:
                return walks.firstWayFrom(from);
        }
    }

    public int post(int what) {
        if (what < 0 || what > 1) {
            return OUTSIDE;
        }
        if (!home.stands) {
            return STATE;
        }
        int seenNow = seenByAny(0);
        int best = NONE;
        int mostSeen = NONE;
        for (int where = 0; where < CELLS * WAYS; where++) {
            int seenThen = seenWithPost(seenNow, where);
            if (seenThen > mostSeen) {
                mostSeen = seenThen;
                best = where;
            }
        }
        return what == 0 ? best : Math.max(mostSeen, 0);
    }

    public int tilt(int cell, int what) {
        if (!home.has(cell)) {
            return UNKNOWN;
        }
        if (what < 0 || what > 1) {
            return OUTSIDE;
        }
        if (!home.isFloor(cell) || tiltsDone >= MOST_TILTS) {
            return STATE;
        }
        tiltsDone++;
        int tilted = fewestTilted(cell);
        return what == 0 && tilted != NONE ? Integer.bitCount(tilted) : tilted;
    }

    // ---- a ledger

    public int ledger(int told) {
        if (told < NONE || told > 1) {
            return OUTSIDE;
        }
        if (scene.steps >= LEDGER_STEPS) {
            return FULL;
        }
        scene.addStep(told);
        return scene.steps;
    }

    public int forget() {
        int had = scene.steps;
        scene.steps = 0;
        return had;
    }

    public int fits(int person, int what) {
        if (!scene.hasPerson(person)) {
            return UNKNOWN;
        }
        if (what < 0 || what > 1) {
            return OUTSIDE;
        }
        rows.reckon(home, scene, seenByAny(0), at(scene.personCells, person));
        return what == 0 ? rows.number() : rows.ends();
    }

    public int days(int times, int seed, int what) {
        if (times < 1 || times > MOST_DAYS || seed < 0 || what < 0 || what > 2) {
            return OUTSIDE;
        }
        if (!home.stands) {
            return STATE;
        }
        future.reckon(home, scene, seenByAny(0), times, seed);
        switch (what) {
            case 0:
                return future.entries;
            case 1:
                return scene.people > 0 ? at(future.cells, 0) : NONE;
            default:
                return future.seed;
        }
    }

    // ---- what is told of all

    public int image() {
        if (!home.stands) {
            return STATE;
        }
        kept.takeFrom(scene);
        isKept = true;
        return scene.allEntries();
    }

    public int restore() {
        if (!isKept) {
            return STATE;
        }
        scene.takeFrom(kept);
        return scene.allEntries();
    }

    public int count(int what) {
        switch (what) {
            case 0:
                return home.depth;
            case 1:
                return home.floors();
            case 2:
                return Integer.bitCount(seenByAny(0));
            case 3:
                return oneIf(scene.isDusk);
            case 4:
                return scene.clerks;
            case 5:
                return scene.people;
            case 6:
                return scene.allEntries();
            case 7:
                return scene.steps;
            case 8:
                return page.letters;
            case 9:
                return housesRead;
            case 10:
                return tiltsDone;
            default:
                return OUTSIDE;
        }
    }

    public long digest() {
        long h = 839;
        if (home.stands) {
            for (int place = 0; place < CELLS; place++) {
                for (int what = 0; what <= 3; what++) {
                    h = 31 * h + cell(place, what);
                }
            }
            h = 31 * h + post(0);
            h = 31 * h + post(1);
        }
        for (int number = 0; number < scene.clerks; number++) {
            for (int what = 0; what <= 3; what++) {
                h = 31 * h + clerkOf(number, what);
            }
        }
        for (int number = 0; number < scene.people; number++) {
            h = 31 * h + personOf(number, 0);
            h = 31 * h + personOf(number, 1);
            h = 31 * h + fits(number, 0);
            h = 31 * h + fits(number, 1);
        }
        for (int place = 0; place < page.letters; place++) {
            h = 31 * h + at(page.codes, place);
        }
        for (int what = 0; what <= 10; what++) {
            h = 31 * h + count(what);
        }
        return h;
    }

    // ---- what the calls have in common

    /** The CLERKS who see a CELL, as bits; or only those of them who see it LEFT for right. */
    private int clerksSeeing(int cell, boolean onlyLeft) {
        int clerks = 0;
        for (int number = 0; number < scene.clerks; number++) {
            sight.ofClerk(home, scene, number, 0);
            clerks |= bit(onlyLeft ? sight.left : sight.seen, cell) << number;
        }
        return clerks;
    }

    /** The FLOORS that any CLERK sees, as bits, with the MIRRORS tilted that the other bits name. */
    private int seenByAny(int tilted) {
        int seen = 0;
        for (int number = 0; number < scene.clerks; number++) {
            sight.ofClerk(home, scene, number, tilted);
            seen |= sight.seen;
        }
        return seen;
    }

    private int seenWithPost(int seenNow, int where) {
        int cell = where / WAYS;
        if (!home.isFloor(cell)) {
            return NONE;
        }
        sight.follow(home, scene.isDusk, 0, cell, where % WAYS);
        return Integer.bitCount(seenNow | sight.seen);
    }

    /** Going up through the bits, so that of equally few the least is found first. */
    private int fewestTilted(int cell) {
        int fixed = ~home.tiltable();
        int best = NONE;
        int fewest = CELLS + 1;
        for (int tilted = 0; tilted < 1 << CELLS; tilted++) {
            boolean isWorth = (tilted & fixed) == 0 && Integer.bitCount(tilted) < fewest;
            if (isWorth && bit(seenByAny(tilted), cell) == 1) {
                best = tilted;
                fewest = Integer.bitCount(tilted);
            }
        }
        return best;
    }

    private static boolean isOfKind(int sign, int wanted) {
        return wanted == MIRROR || sign == wanted || (sign == WINDOW && wanted == FLAT);
    }

    private static boolean isWay(int way) {
        return way >= 0 && way < WAYS;
    }

    private static int oneIf(boolean is) {
        return is ? 1 : 0;
    }

    private static int bit(int bits, int place) {
        return place >= 0 && place < CELLS ? bits >> place & 1 : 0;
    }

    private static int at(int[] row, int place) {
        return place >= 0 && place < row.length ? row[place] : 0;
    }

    private static void put(int[] row, int place, int value) {
        if (place >= 0 && place < row.length) {
            row[place] = value;
        }
    }

    private static void fill(int[] row, int value) {
        for (int place = 0; place < row.length; place++) {
            row[place] = value;
        }
    }

    private static void copy(int[] from, int[] to) {
        for (int place = 0; place < to.length; place++) {
            to[place] = at(from, place);
        }
    }

    /** THE PAGE: letters that may become a HOUSE. */
    private static final class Page {
        final int[] codes = new int[PAGE_LETTERS];
        int letters;

        void add(int code) {
            put(codes, letters, code);
            letters++;
        }

        void empty() {
            letters = 0;
        }

        boolean isHouse() {
            return letters == HOUSE_LETTERS && firstFault() == HOUSE_LETTERS;
        }

        int firstFault() {
            for (int place = 0; place < letters; place++) {
                if (!isDue(place, at(codes, place))) {
                    return place;
                }
            }
            return letters;
        }

        /** A row of the HOUSE and the sign behind it take five places. */
        private static boolean isDue(int place, int code) {
            if (place >= HOUSE_LETTERS) {
                return false;
            }
            if (place == DEPTH_PLACE) {
                return code >= '1' && code <= '9';
            }
            if (place == DEPTH_PLACE - 1) {
                return code == ';';
            }
            if (place % (COLUMNS + 1) == COLUMNS) {
                return code == ',';
            }
            return signOf(code) != NONE;
        }

        int signAt(int cell) {
            return signOf(at(codes, cell + cell / COLUMNS));
        }

        int depth() {
            return at(codes, DEPTH_PLACE) - '0';
        }

        private static int signOf(int code) {
            return SIGNS.indexOf((char) code);
        }
    }

    /** THE HOUSE, if it stands: a sign on each CELL, and the DEPTH. */
    private static final class House {
        final int[] signs = new int[CELLS];
        boolean stands;
        int depth;

        void read(Page page) {
            for (int cell = 0; cell < CELLS; cell++) {
                put(signs, cell, page.signAt(cell));
            }
            depth = page.depth();
            stands = true;
        }

        boolean has(int cell) {
            return stands && cell >= 0 && cell < CELLS;
        }

        /** Where there is no CELL all ends, as at a WALL. */
        int signAt(int cell) {
            return has(cell) ? at(signs, cell) : WALL;
        }

        boolean isFloor(int cell) {
            return has(cell) && at(signs, cell) == FLOOR;
        }

        int floors() {
            int floors = 0;
            for (int cell = 0; cell < CELLS; cell++) {
                floors += oneIf(isFloor(cell));
            }
            return floors;
        }

        /** The MIRRORS and BACK ones, as bits. */
        int tiltable() {
            int bits = 0;
            for (int cell = 0; cell < CELLS; cell++) {
                int sign = signAt(cell);
                bits |= oneIf(sign == MIRROR || sign == BACK) << cell;
            }
            return bits;
        }

        int floorBeside(int cell, int way) {
            int next = beside(cell, way);
            return isFloor(next) ? next : NONE;
        }

        static int beside(int cell, int way) {
            int column = cell % COLUMNS;
            switch (way) {
                case 0:
                    return column < COLUMNS - 1 ? cell + 1 : NONE;
                case 1:
                    return cell < CELLS - COLUMNS ? cell + COLUMNS : NONE;
                case 2:
                    return column > 0 ? cell - 1 : NONE;
                case 3:
                    return cell >= COLUMNS ? cell - COLUMNS : NONE;
                default:
                    return NONE;
            }
        }
    }

    /** What an IMAGE keeps: CLERKS, PEOPLE, DUSK, the LEDGER. */
    private static final class Scene {
        final int[] clerkCells = new int[CROWD];
        final int[] clerkWays = new int[CROWD];
        final int[] personCells = new int[CROWD];
        final int[] entries = new int[CROWD];
        final int[] told = new int[LEDGER_STEPS];
        int clerks;
        int people;
        int steps;
        boolean isDusk;

        void empty() {
            clerks = 0;
            people = 0;
            steps = 0;
            isDusk = false;
        }

        void takeFrom(Scene other) {
            copy(other.clerkCells, clerkCells);
            copy(other.clerkWays, clerkWays);
            copy(other.personCells, personCells);
            copy(other.entries, entries);
            copy(other.told, told);
            clerks = other.clerks;
            people = other.people;
            steps = other.steps;
            isDusk = other.isDusk;
        }

        boolean hasClerk(int number) {
            return number >= 0 && number < clerks;
        }

        boolean hasPerson(int number) {
            return number >= 0 && number < people;
        }

        int addClerk(int cell, int way) {
            put(clerkCells, clerks, cell);
            put(clerkWays, clerks, way);
            clerks++;
            return clerks - 1;
        }

        int addPerson(int cell) {
            put(personCells, people, cell);
            put(entries, people, 0);
            people++;
            return people - 1;
        }

        void addStep(int entered) {
            put(told, steps, entered);
            steps++;
        }

        int peopleAt(int cell) {
            int there = 0;
            for (int number = 0; number < people; number++) {
                there += oneIf(at(personCells, number) == cell);
            }
            return there;
        }

        int allEntries() {
            int all = 0;
            for (int number = 0; number < people; number++) {
                all += at(entries, number);
            }
            return all;
        }
    }

    /** One SIGHT at a time: what it came to when it was followed last. */
    private static final class Sight {
        /** Ten lines, between nine TURNS, of three CELLS at most: no SIGHT comes near this. */
        private static final int MOST_CELLS = 1000;
        private static final int THROUGH = 0;

        int seen;
        int left;
        int turns;

        void ofClerk(House house, Scene scene, int number, int tilted) {
            follow(house, scene.isDusk, tilted, at(scene.clerkCells, number), at(scene.clerkWays, number));
        }

        void follow(House house, boolean isDusk, int tilted, int from, int way) {
            seen = 0;
            left = 0;
            turns = 0;
            int cell = from;
            int heading = way;
            for (int cells = 0; cells < MOST_CELLS; cells++) {
                cell = House.beside(cell, heading);
                int sign = house.signAt(cell);
                if (sign == FLOOR) {
                    comeTo(cell);
                    continue;
                }
                int turn = turnAt(sign, isDusk, bit(tilted, cell) == 1);
                if (turn == NONE || (turn != THROUGH && turns >= house.depth)) {
                    return;
                }
                heading ^= turn;
                turns += oneIf(turn != THROUGH);
            }
        }

        private void comeTo(int cell) {
            if (bit(seen, cell) == 0) {
                seen |= 1 << cell;
                left |= (turns & 1) << cell;
            }
        }

        /** The WAYS are so numbered that each TURN is their exclusive or with one number. */
        private static int turnAt(int sign, boolean isDusk, boolean isTilted) {
            switch (sign) {
                case MIRROR:
                    return isTilted ? 1 : 3;
                case BACK:
                    return isTilted ? 3 : 1;
                case FLAT:
                    return 2;
                case WINDOW:
                    return isDusk ? 2 : THROUGH;
                default:
                    return NONE;
            }
        }
    }

    /** The WALKS to one FLOOR from all others. */
    private static final class Walk {
        /** More than the STEPS of any WALK, so that one price tells entries first, then STEPS. */
        private static final int ENTRY = 100;
        private static final int FAR = 1000000;

        private final int[] prices = new int[CELLS];
        private final int[] firstWays = new int[CELLS];

        void reckon(House house, int seen, int target) {
            fill(prices, FAR);
            fill(firstWays, NONE);
            put(prices, target, 0);
            // No WALK is longer than the CELLS; the last round finds the WAYS by prices that stand.
            for (int round = 0; round < CELLS; round++) {
                for (int cell = 0; cell < CELLS; cell++) {
                    if (cell != target) {
                        choose(house, seen, cell);
                    }
                }
            }
        }

        boolean leadsFrom(int cell) {
            return at(prices, cell) < FAR;
        }

        int entriesFrom(int cell) {
            return at(prices, cell) / ENTRY;
        }

        int stepsFrom(int cell) {
            return at(prices, cell) % ENTRY;
        }

        int firstWayFrom(int cell) {
            return at(firstWays, cell);
        }

        private void choose(House house, int seen, int cell) {
            int least = FAR;
            for (int way = 0; way < WAYS; way++) {
                int next = house.floorBeside(cell, way);
                int price = next == NONE ? FAR : at(prices, next) + 1 + ENTRY * bit(seen, next);
                if (price < least) {
                    least = price;
                    put(firstWays, cell, way);
                }
            }
            put(prices, cell, least);
        }
    }

    /** The rows of STEPS that a LEDGER fits, by the CELLS on which they end. */
    private static final class Rows {
        private final int[] ending = new int[CELLS];
        private final int[] longer = new int[CELLS];

        void reckon(House house, Scene scene, int seen, int from) {
            fill(ending, 0);
            put(ending, from, 1);
            for (int step = 0; step < scene.steps; step++) {
                goOn(house, seen, at(scene.told, step));
            }
        }

        int number() {
            int all = 0;
            for (int cell = 0; cell < CELLS; cell++) {
                all += at(ending, cell);
            }
            return all;
        }

        int ends() {
            int bits = 0;
            for (int cell = 0; cell < CELLS; cell++) {
                bits |= oneIf(at(ending, cell) > 0) << cell;
            }
            return bits;
        }

        private void goOn(House house, int seen, int told) {
            fill(longer, 0);
            for (int cell = 0; cell < CELLS; cell++) {
                for (int way = 0; way < WAYS; way++) {
                    int next = house.floorBeside(cell, way);
                    if (next != NONE && (told == NONE || told == bit(seen, next))) {
                        put(longer, next, at(longer, next) + at(ending, cell));
                    }
                }
            }
            copy(longer, ending);
        }
    }

    /** DAYS as they would be: the PEOPLE themselves stay where they are. */
    private static final class Days {
        final int[] cells = new int[CROWD];
        int entries;
        int seed;

        void reckon(House house, Scene scene, int seen, int times, int firstSeed) {
            copy(scene.personCells, cells);
            entries = 0;
            seed = firstSeed;
            for (int time = 0; time < times; time++) {
                for (int number = 0; number < scene.people; number++) {
                    goByDraw(house, seen, number);
                }
            }
        }

        private void goByDraw(House house, int seen, int number) {
            seed = (int) ((1103515245L * seed + 12345L) & 0x7fffffffL);
            int way = seed / 65536 % WAYS;
            int next = house.floorBeside(at(cells, number), way);
            if (next != NONE) {
                put(cells, number, next);
                entries += bit(seen, next);
            }
        }
    }
}
