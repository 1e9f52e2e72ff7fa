import java.util.ArrayList;
import java.util.Arrays;
import java.util.List;

/**
 * The document once more, slowly and in other ways than the program's: the house stays a text, what would be is
 * tried out, all rows of STEPS one by one. A call is told by its name and its arguments.
 */
final class Model {
    private static final int NONE = -1, UNKNOWN = -101, OUTSIDE = -102, STATE = -103, FULL = -104;
    private static final int[] ROW_BY_WAY = {0, 1, 0, -1};
    private static final int[] COLUMN_BY_WAY = {1, 0, -1, 0};

    /** What an IMAGE keeps. */
    private static final class Kept {
        final List<int[]> clerks = new ArrayList<>();
        final List<int[]> people = new ArrayList<>();
        final List<Integer> told = new ArrayList<>();
        boolean dusk;

        Kept again() {
            Kept copy = new Kept();
            clerks.forEach(clerk -> copy.clerks.add(clerk.clone()));
            people.forEach(person -> copy.people.add(person.clone()));
            copy.told.addAll(told);
            copy.dusk = dusk;
            return copy;
        }

        int entries() {
            return people.stream().mapToInt(person -> person[1]).sum();
        }
    }

    /** One SIGHT: its CELLS in order, how often it had TURNED at each, and all its TURNS. */
    private static final class Seen {
        final List<Integer> cells = new ArrayList<>();
        final List<Integer> turnsAt = new ArrayList<>();
        int turns;

        int bits() {
            int bits = 0;
            for (int cell : cells) {
                bits |= 1 << cell;
            }
            return bits;
        }
    }

    private String page = "";
    private String house = null;
    private Kept now = new Kept();
    private Kept image = null;
    private int houses = 0;
    private int tilts = 0;

    long answer(String call, int[] a) {
        switch (call) {
            case "letter": return letter(a[0]);
            case "blank": return blank();
            case "fault": return fault();
            case "house": return house();
            case "cell": return cell(a[0], a[1]);
            case "as": return as(a[0], a[1]);
            case "dusk": return dusk(a[0] != 0);
            case "clerk": return clerk(a[0], a[1]);
            case "look": return look(a[0], a[1]);
            case "clerkOf": return clerkOf(a[0], a[1]);
            case "person": return person(a[0]);
            case "personOf": return personOf(a[0], a[1]);
            case "step": return step(a[0], a[1]);
            case "walk": return walk(a[0], a[1], a[2]);
            case "post": return post(a[0]);
            case "tilt": return tilt(a[0], a[1]);
            case "ledger": return ledger(a[0]);
            case "forget": return forget();
            case "fits": return fits(a[0], a[1]);
            case "days": return days(a[0], a[1], a[2]);
            case "image": return image();
            case "restore": return restore();
            case "count": return count(a[0]);
            case "digest": return digest();
            default: throw new IllegalArgumentException(call);
        }
    }

    private static boolean isIn(int number, int least, int most) {
        return number >= least && number <= most;
    }

    /** The house without the signs between: twelve signs and a digit. */
    private static String plain(String text) {
        return text.replace(",", "").replace(";", "");
    }

    private char sign(String signs, int cell) {
        return signs.charAt(cell);
    }

    private boolean isCell(int cell) {
        return house != null && isIn(cell, 0, 11);
    }

    private boolean isFloor(int cell) {
        return isCell(cell) && sign(house, cell) == '.';
    }

    private static int beside(int cell, int way) {
        int row = cell / 4 + ROW_BY_WAY[way];
        int column = cell % 4 + COLUMN_BY_WAY[way];
        return isIn(row, 0, 2) && isIn(column, 0, 3) ? 4 * row + column : NONE;
    }

    private int floorBeside(int cell, int way) {
        int next = beside(cell, way);
        return isFloor(next) ? next : NONE;
    }

    private Seen sight(String signs, int from, int way) {
        Seen seen = new Seen();
        int depth = signs.charAt(12) - '0';
        int cell = beside(from, way);
        while (cell != NONE) {
            char sign = sign(signs, cell);
            if (sign == 'w') {
                sign = now.dusk ? 'f' : ' ';
            }
            if (sign == '#' || sign == 'v') {
                break;
            }
            if (sign == '.') {
                seen.cells.add(cell);
                seen.turnsAt.add(seen.turns);
            } else if (sign != ' ') {
                if (seen.turns == depth) {
                    break;
                }
                seen.turns++;
                String from4 = "rdlu";
                String to4 = sign == 'm' ? "uldr" : sign == 'b' ? "drul" : "lurd";
                way = from4.indexOf(to4.charAt(way));
            }
            cell = beside(cell, way);
        }
        return seen;
    }

    private Seen sightOf(String signs, int clerk) {
        return sight(signs, now.clerks.get(clerk)[0], now.clerks.get(clerk)[1]);
    }

    private int seenByAny(String signs) {
        int bits = 0;
        for (int clerk = 0; clerk < now.clerks.size(); clerk++) {
            bits |= sightOf(signs, clerk).bits();
        }
        return bits;
    }

    private boolean isSeen(int cell) {
        return (seenByAny(house) & 1 << cell) != 0;
    }

    private int letter(int code) {
        if (!isIn(code, 1, 126)) {
            return OUTSIDE;
        }
        if (page.length() == 18) {
            return FULL;
        }
        page += (char) code;
        return page.length();
    }

    private int blank() {
        int had = page.length();
        page = "";
        return had;
    }

    private int fault() {
        String whole = "....,....,....;1";
        int place = 0;
        while (place < page.length()) {
            String due = place < 16 ? page.substring(0, place + 1) + whole.substring(place + 1) : "";
            if (!due.matches("([.#mbfwv]{4},){2}[.#mbfwv]{4};[1-9]")) {
                return place;
            }
            place++;
        }
        return place;
    }

    private int house() {
        if (!page.matches("([.#mbfwv]{4},){2}[.#mbfwv]{4};[1-9]")) {
            return STATE;
        }
        house = plain(page);
        page = "";
        now = new Kept();
        image = null;
        houses++;
        return count(1);
    }

    private int cell(int cell, int what) {
        if (!isCell(cell)) {
            return UNKNOWN;
        }
        if (!isIn(what, 0, 3)) {
            return OUTSIDE;
        }
        if (what == 0) {
            return ".#mbfwv".indexOf(sign(house, cell));
        }
        if (what == 3) {
            return (int) now.people.stream().filter(person -> person[0] == cell).count();
        }
        int bits = 0;
        for (int clerk = 0; clerk < now.clerks.size(); clerk++) {
            Seen seen = sightOf(house, clerk);
            int first = seen.cells.indexOf(cell);
            if (first >= 0 && (what == 1 || seen.turnsAt.get(first) % 2 == 1)) {
                bits |= 1 << clerk;
            }
        }
        return bits;
    }

    private int as(int cell, int kind) {
        int is = isCell(cell) ? "mbfwv".indexOf(sign(house, cell)) : NONE;
        if (is < 0) {
            return UNKNOWN;
        }
        if (!isIn(kind, 0, 4)) {
            return OUTSIDE;
        }
        return kind == 0 || kind == is || (kind == 2 && is == 3) ? cell : NONE;
    }

    private int dusk(boolean is) {
        if (house == null) {
            return STATE;
        }
        int was = now.dusk ? 1 : 0;
        now.dusk = is;
        return was;
    }

    private int clerk(int cell, int way) {
        if (!isCell(cell)) {
            return UNKNOWN;
        }
        if (!isIn(way, 0, 3)) {
            return OUTSIDE;
        }
        if (!isFloor(cell)) {
            return STATE;
        }
        if (now.clerks.size() == 3) {
            return FULL;
        }
        now.clerks.add(new int[] {cell, way});
        return now.clerks.size() - 1;
    }

    private int look(int clerk, int way) {
        if (!isIn(clerk, 0, now.clerks.size() - 1)) {
            return UNKNOWN;
        }
        if (!isIn(way, 0, 3)) {
            return OUTSIDE;
        }
        int was = now.clerks.get(clerk)[1];
        now.clerks.get(clerk)[1] = way;
        return was;
    }

    private int clerkOf(int clerk, int what) {
        if (!isIn(clerk, 0, now.clerks.size() - 1)) {
            return UNKNOWN;
        }
        if (!isIn(what, 0, 3)) {
            return OUTSIDE;
        }
        Seen seen = sightOf(house, clerk);
        return what < 2 ? now.clerks.get(clerk)[what] : what == 2 ? seen.bits() : seen.turns;
    }

    private int person(int cell) {
        if (!isCell(cell)) {
            return UNKNOWN;
        }
        if (!isFloor(cell)) {
            return STATE;
        }
        if (now.people.size() == 3) {
            return FULL;
        }
        now.people.add(new int[] {cell, 0});
        return now.people.size() - 1;
    }

    private int personOf(int person, int what) {
        if (!isIn(person, 0, now.people.size() - 1)) {
            return UNKNOWN;
        }
        return isIn(what, 0, 1) ? now.people.get(person)[what] : OUTSIDE;
    }

    private int step(int person, int way) {
        if (!isIn(person, 0, now.people.size() - 1)) {
            return UNKNOWN;
        }
        if (!isIn(way, 0, 3)) {
            return OUTSIDE;
        }
        int[] he = now.people.get(person);
        int next = floorBeside(he[0], way);
        if (next == NONE) {
            return STATE;
        }
        he[0] = next;
        he[1] += isSeen(next) ? 1 : 0;
        return next;
    }

    private int walk(int person, int cell, int what) {
        if (!isIn(person, 0, now.people.size() - 1) || !isCell(cell)) {
            return UNKNOWN;
        }
        if (!isIn(what, 0, 2)) {
            return OUTSIDE;
        }
        if (!isFloor(cell)) {
            return STATE;
        }
        int[] best = {Integer.MAX_VALUE, Integer.MAX_VALUE, NONE};
        go(now.people.get(person)[0], cell, new boolean[12], new int[] {0, 0, NONE}, seenByAny(house), best);
        return best[0] == Integer.MAX_VALUE ? NONE : best[what];
    }

    /** Every row of STEPS that comes to no CELL twice. */
    private void go(int at, int to, boolean[] been, int[] row, int seen, int[] best) {
        if (at == to) {
            if (Arrays.compare(row, best) < 0) {
                System.arraycopy(row, 0, best, 0, 3);
            }
            return;
        }
        been[at] = true;
        for (int way = 0; way < 4; way++) {
            int next = floorBeside(at, way);
            if (next != NONE && !been[next]) {
                int first = row[1] == 0 ? way : row[2];
                go(next, to, been, new int[] {row[0] + (seen >> next & 1), row[1] + 1, first}, seen, best);
            }
        }
        been[at] = false;
    }

    private int post(int what) {
        if (!isIn(what, 0, 1)) {
            return OUTSIDE;
        }
        if (house == null) {
            return STATE;
        }
        int[] best = {NONE, 0};
        for (int where = 47; where >= 0; where--) {
            if (isFloor(where / 4)) {
                now.clerks.add(new int[] {where / 4, where % 4});
                int seen = Integer.bitCount(seenByAny(house));
                now.clerks.remove(now.clerks.size() - 1);
                best = seen >= best[1] ? new int[] {where, seen} : best;
            }
        }
        return best[what];
    }

    private int tilt(int cell, int what) {
        if (!isCell(cell)) {
            return UNKNOWN;
        }
        if (!isIn(what, 0, 1)) {
            return OUTSIDE;
        }
        if (!isFloor(cell) || tilts == 20) {
            return STATE;
        }
        tilts++;
        int[] best = {Integer.MAX_VALUE, Integer.MAX_VALUE};
        tryTilts(house, 0, cell, new int[] {0, 0}, best);
        return best[0] == Integer.MAX_VALUE ? NONE : best[what];
    }

    private void tryTilts(String signs, int from, int cell, int[] tilted, int[] best) {
        if (from == 12) {
            if ((seenByAny(signs) >> cell & 1) == 1 && Arrays.compare(tilted, best) < 0) {
                System.arraycopy(tilted, 0, best, 0, 2);
            }
            return;
        }
        tryTilts(signs, from + 1, cell, tilted, best);
        char sign = sign(signs, from);
        if (sign == 'm' || sign == 'b') {
            String other = signs.substring(0, from) + (sign == 'm' ? 'b' : 'm') + signs.substring(from + 1);
            tryTilts(other, from + 1, cell, new int[] {tilted[0] + 1, tilted[1] | 1 << from}, best);
        }
    }

    private int ledger(int told) {
        if (!isIn(told, -1, 1)) {
            return OUTSIDE;
        }
        if (now.told.size() == 8) {
            return FULL;
        }
        now.told.add(told);
        return now.told.size();
    }

    private int forget() {
        int had = now.told.size();
        now.told.clear();
        return had;
    }

    private int fits(int person, int what) {
        if (!isIn(person, 0, now.people.size() - 1)) {
            return UNKNOWN;
        }
        if (!isIn(what, 0, 1)) {
            return OUTSIDE;
        }
        int[] found = {0, 0};
        fitFrom(now.people.get(person)[0], 0, seenByAny(house), found);
        return found[what];
    }

    private void fitFrom(int cell, int steps, int seen, int[] found) {
        if (steps == now.told.size()) {
            found[0]++;
            found[1] |= 1 << cell;
            return;
        }
        for (int way = 0; way < 4; way++) {
            int next = floorBeside(cell, way);
            int told = now.told.get(steps);
            if (next != NONE && (told == NONE || told == (seen >> next & 1))) {
                fitFrom(next, steps + 1, seen, found);
            }
        }
    }

    private int days(int times, int seed, int what) {
        if (!isIn(times, 1, 60) || seed < 0 || !isIn(what, 0, 2)) {
            return OUTSIDE;
        }
        if (house == null) {
            return STATE;
        }
        Kept stays = now;
        now = now.again();
        long drawn = seed;
        for (int time = 0; time < times; time++) {
            for (int person = 0; person < now.people.size(); person++) {
                drawn = Math.floorMod(1103515245L * drawn + 12345L, 1L << 31);
                step(person, (int) (drawn / 65536 % 4));
            }
        }
        int[] told = {
            now.entries() - stays.entries(), now.people.isEmpty() ? NONE : now.people.get(0)[0], (int) drawn};
        now = stays;
        return told[what];
    }

    private int image() {
        if (house == null) {
            return STATE;
        }
        image = now.again();
        return now.entries();
    }

    private int restore() {
        if (image == null) {
            return STATE;
        }
        now = image.again();
        return now.entries();
    }

    private int count(int what) {
        if (!isIn(what, 0, 10)) {
            return OUTSIDE;
        }
        boolean is = house != null;
        int floors = is ? (int) house.chars().filter(sign -> sign == '.').count() : 0;
        int seen = is ? Integer.bitCount(seenByAny(house)) : 0;
        int depth = is ? house.charAt(12) - '0' : 0;
        int[] counts = {
            depth, floors, seen, now.dusk ? 1 : 0, now.clerks.size(), now.people.size(), now.entries(),
            now.told.size(), page.length(), houses, tilts};
        return counts[what];
    }

    private long digest() {
        List<Integer> numbers = new ArrayList<>();
        for (int cell = 0; house != null && cell < 12; cell++) {
            numbers.addAll(List.of(cell(cell, 0), cell(cell, 1), cell(cell, 2), cell(cell, 3)));
        }
        if (house != null) {
            numbers.addAll(List.of(post(0), post(1)));
        }
        for (int i = 0; i < now.clerks.size(); i++) {
            numbers.addAll(List.of(clerkOf(i, 0), clerkOf(i, 1), clerkOf(i, 2), clerkOf(i, 3)));
        }
        for (int i = 0; i < now.people.size(); i++) {
            numbers.addAll(List.of(personOf(i, 0), personOf(i, 1), fits(i, 0), fits(i, 1)));
        }
        page.chars().forEach(numbers::add);
        for (int what = 0; what <= 10; what++) {
            numbers.add(count(what));
        }
        long h = 839;
        for (int number : numbers) {
            h = 31 * h + number;
        }
        return h;
    }
}
