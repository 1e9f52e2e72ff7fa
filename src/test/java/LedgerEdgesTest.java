import java.math.BigInteger;

/** Edges of promises 18 to 21: a LEDGER, and DAYS. */
public final class LedgerEdgesTest {
    private static final int NONE = MirrorClerks.NONE, UNKNOWN = MirrorClerks.UNKNOWN,
        OUTSIDE = MirrorClerks.OUTSIDE, STATE = MirrorClerks.STATE, FULL = MirrorClerks.FULL;
    private static final int RIGHT = 0;
    private static final int[] BESIDE_5 = {6, 9, 4, 1};

    public static void main(String[] args) throws ReflectiveOperationException {
        Edges.run(LedgerEdgesTest.class);
    }

    private static MirrorClerks told(int... steps) {
        MirrorClerks x = Scenes.watched(Scenes.OPEN, 4, RIGHT);
        x.person(5);
        for (int step : steps) {
            x.ledger(step);
        }
        return x;
    }

    // ---- 18

    @Edges.Of("18: ENTERED (1), not (0), or nothing (NONE)")
    static void ofAStepIsToldMinus1To1() {
        for (int told = -1; told <= 1; told++) {
            Edges.taken(Scenes::fresh, 1, "ledger", told);
            Edges.taken(() -> told(0, 0), 3, "ledger", told);
        }
        Edges.taken(() -> told(0), Edges.bits(9, 4, 1), "fits", 0, 1);
        Edges.taken(() -> told(1), Edges.bits(6), "fits", 0, 1);
        Edges.taken(() -> told(NONE), Edges.bits(6, 9, 4, 1), "fits", 0, 1);
    }

    @Edges.Of("18: OUTSIDE")
    static void aStepToldIsOutside() {
        for (int told : Edges.around(-2, 2)) {
            Edges.refused(Scenes::bare, OUTSIDE, "ledger", told);
            Edges.refused(Scenes::busy, OUTSIDE, "ledger", told);
        }
    }

    @Edges.Of("18: FULL.")
    static void aNinthStepIsTooMany() {
        Edges.taken(() -> told(0, 1, NONE, 0, 1, NONE, 0), 8, "ledger", 1);
        for (int told = -1; told <= 1; told++) {
            Edges.refused(() -> told(0, 1, NONE, 0, 1, NONE, 0, 1), FULL, "ledger", told);
            Edges.refused(Scenes::full, FULL, "ledger", told);
        }
    }

    @Edges.Of("18: OUTSIDE; FULL.")
    static void aStepOutsideComesAheadOfFull() {
        for (int told : Edges.around(-2, 2)) {
            Edges.refused(Scenes::full, OUTSIDE, "ledger", told);
        }
    }

    @Edges.Of("18: how many STEPS.")
    static void stepsAreNumbered1To8() {
        MirrorClerks x = new MirrorClerks();
        for (int steps = 1; steps <= 8; steps++) {
            Edges.due("one STEP more", x.ledger(NONE), steps);
            Edges.due("count(7)", x.count(7), steps);
        }
    }

    // ---- 19

    @Edges.Of("19: The LEDGER is empty: how many STEPS it had.")
    static void anEmptyLedgerAndAFullOneAreForgotten() {
        for (int many : new int[] {0, 1, 8}) {
            MirrorClerks x = told(new int[many]);
            Edges.due("forget()", x.forget(), many);
            Edges.due("count(7)", x.count(7), 0);
            Edges.due("forget() once more", x.forget(), 0);
            Edges.due("FITS", x.fits(0, 0), 1);
            Edges.due("a STEP then", x.ledger(1), 1);
            Edges.due("that STEP alone", x.fits(0, 1), Edges.bits(6));
        }
        Edges.taken(Scenes::fresh, 0, "forget");
    }

    // ---- 20

    @Edges.Of("20: UNKNOWN: person")
    static void ofAnUnknownPersonNothingFits() {
        for (int people = 0; people <= 3; people++) {
            int many = people;
            for (int person : Edges.around(-1, people)) {
                Edges.refused(() -> Scenes.crowd(3, many), UNKNOWN, "fits", person, 0);
                Edges.refused(() -> Scenes.crowd(3, many), UNKNOWN, "fits", person, 1);
            }
            for (int person = 0; person < people; person++) {
                Edges.taken(() -> Scenes.crowd(0, many), Edges.bits(9 + person), "fits", person, 1);
            }
        }
        Edges.refused(Scenes::bare, UNKNOWN, "fits", 0, 0);
    }

    @Edges.Of("20: OUTSIDE.")
    static void whatFitsIsTold0And1() {
        Edges.taken(() -> told(NONE), 4, "fits", 0, 0);
        Edges.taken(() -> told(NONE), Edges.bits(1, 4, 6, 9), "fits", 0, 1);
        for (int what : Edges.around(-1, 2)) {
            Edges.refused(Scenes::busy, OUTSIDE, "fits", 0, what);
            Edges.refused(Scenes::full, OUTSIDE, "fits", 2, what);
        }
    }

    @Edges.Of("20: UNKNOWN: person; OUTSIDE.")
    static void anUnknownPersonComesAheadOfOutside() {
        for (int what : Edges.around(-1, 2)) {
            Edges.refused(Scenes::busy, UNKNOWN, "fits", 2, what);
            Edges.refused(Scenes::busy, UNKNOWN, "fits", -1, what);
        }
    }

    @Edges.Of("0: how many rows of STEPS, from where he is, would be ENTERED so; ENDS: on which CELLS these end")
    static void anEmptyLedgerFitsOneRow() {
        Edges.taken(() -> told(), 1, "fits", 0, 0);
        Edges.taken(() -> told(), Edges.bits(5), "fits", 0, 1);
        Edges.taken(() -> Scenes.peopled("####,####,###.;9", 11), 1, "fits", 0, 0);
        Edges.taken(() -> Scenes.peopled("####,####,###.;9", 11), Edges.bits(11), "fits", 0, 1);
    }

    @Edges.Of("0: would be ENTERED so")
    static void noRowFits() {
        MirrorClerks alone = Scenes.peopled("####,####,###.;9", 11);
        alone.ledger(NONE);
        Edges.due("FITS where there is no STEP", alone.fits(0, 0), 0);
        Edges.due("ENDS where there is no STEP", alone.fits(0, 1), 0);
        MirrorClerks unseen = Scenes.peopled(Scenes.OPEN, 5);
        unseen.ledger(1);
        Edges.due("FITS where none is SEEN", unseen.fits(0, 0), 0);
        Edges.due("ENDS where none is SEEN", unseen.fits(0, 1), 0);
        unseen.ledger(NONE);
        Edges.due("FITS behind it", unseen.fits(0, 0), 0);
    }

    @Edges.Of("0: A LEDGER of a walk (8 STEPS at most)")
    static void allRowsOfEightStepsFit() {
        int[] nothing = {NONE, NONE, NONE, NONE, NONE, NONE, NONE, NONE};
        Edges.taken(() -> told(nothing), rows(5, 8), "fits", 0, 0);
        Edges.taken(() -> told(nothing), Edges.bits(0, 2, 5, 7, 8, 10), "fits", 0, 1);
        Edges.taken(() -> told(1, 1, 1, 1, 1, 1, 1, 1), 16, "fits", 0, 0);
        Edges.taken(() -> told(1, 1, 1, 1, 1, 1, 1, 1), Edges.bits(5, 7), "fits", 0, 1);
        Edges.taken(() -> told(1, 1, 1, 1, 1, 1, 1, 0), Edges.bits(2, 10), "fits", 0, 1);
    }

    /** How many rows of STEPS there are in a HOUSE of FLOORS alone. */
    private static int rows(int cell, int steps) {
        if (steps == 0) {
            return 1;
        }
        int all = 0;
        all += cell % 4 < 3 ? rows(cell + 1, steps - 1) : 0;
        all += cell % 4 > 0 ? rows(cell - 1, steps - 1) : 0;
        all += cell < 8 ? rows(cell + 4, steps - 1) : 0;
        all += cell > 3 ? rows(cell - 4, steps - 1) : 0;
        return all;
    }

    // ---- 21

    @Edges.Of("21: OUTSIDE: times (1 to 60)")
    static void daysAre1To60Times() {
        Edges.taken(LedgerEdgesTest::told, seedBehind(7, 1), "days", 1, 7, 2);
        Edges.taken(LedgerEdgesTest::told, seedBehind(7, 60), "days", 60, 7, 2);
        for (int times : Edges.around(0, 61)) {
            Edges.refused(Scenes::busy, OUTSIDE, "days", times, 0, 0);
            Edges.refused(Scenes::busy, OUTSIDE, "days", times, Edges.MOST, 2);
        }
    }

    @Edges.Of("21: seed (0 at least)")
    static void aSeedIs0AtLeast() {
        Edges.taken(LedgerEdgesTest::told, 12345, "days", 1, 0, 2);
        Edges.taken(LedgerEdgesTest::told, seedBehind(1, 1), "days", 1, 1, 2);
        Edges.taken(LedgerEdgesTest::told, seedBehind(Edges.MOST, 1), "days", 1, Edges.MOST, 2);
        for (int seed : new int[] {-1, -2, Edges.LEAST}) {
            Edges.refused(Scenes::busy, OUTSIDE, "days", 1, seed, 0);
            Edges.refused(Scenes::busy, OUTSIDE, "days", 60, seed, 2);
        }
    }

    @Edges.Of("21: seed (0 at least), what;")
    static void ofDaysIsTold0To2() {
        Edges.taken(Scenes::open, 0, "days", 1, 0, 0);
        Edges.taken(Scenes::open, 0, "days", 1, 0, 2);
        for (int what : Edges.around(-1, 3)) {
            Edges.refused(Scenes::busy, OUTSIDE, "days", 1, 0, what);
            Edges.refused(Scenes::busy, OUTSIDE, "days", 60, Edges.MOST, what);
        }
    }

    @Edges.Of("21: STATE: no HOUSE.")
    static void noDaysWithoutAHouse() {
        for (int what = 0; what <= 2; what++) {
            Edges.refused(Scenes::bare, STATE, "days", 1, 0, what);
            Edges.refused(Scenes::bare, STATE, "days", 60, Edges.MOST, what);
        }
    }

    @Edges.Of("21: OUTSIDE: times (1 to 60), seed (0 at least), what; STATE: no HOUSE.")
    static void daysOutsideComeAheadOfNoHouse() {
        Edges.refused(Scenes::bare, OUTSIDE, "days", 0, 0, 0);
        Edges.refused(Scenes::bare, OUTSIDE, "days", 61, 0, 0);
        Edges.refused(Scenes::bare, OUTSIDE, "days", 1, -1, 0);
        Edges.refused(Scenes::bare, OUTSIDE, "days", 1, 0, -1);
        Edges.refused(Scenes::bare, OUTSIDE, "days", 1, 0, 3);
    }

    @Edges.Of("21: 1 the CELL of PERSON 0 then (NONE: there is nobody)")
    static void daysWithNobody() {
        Edges.taken(Scenes::open, NONE, "days", 60, 5, 1);
        Edges.taken(Scenes::open, 0, "days", 60, 5, 0);
        Edges.taken(Scenes::open, 5, "days", 60, 5, 2);
        Edges.taken(Scenes::open, Edges.MOST, "days", 60, Edges.MOST, 2);
    }

    @Edges.Of("0: each of PEOPLE, by number, goes a WAY by a DRAW of 4")
    static void eachOfThreeDrawsEachTime() {
        MirrorClerks x = told();
        x.person(5);
        x.person(5);
        Edges.due("60 times", x.days(60, 11, 2), seedBehind(11, 180));
        Edges.due("once", x.days(1, 11, 2), seedBehind(11, 3));
        for (int seed = 0; seed < 40; seed++) {
            Edges.due("PERSON 0 by the first DRAW", x.days(1, seed, 1), BESIDE_5[draw(seed, 1)]);
            int entered = 0;
            for (int person = 1; person <= 3; person++) {
                entered += BESIDE_5[draw(seed, person)] == 6 ? 1 : 0;
            }
            Edges.due("how often they are ENTERED", x.days(1, seed, 0), entered);
        }
    }

    @Edges.Of("0: if there is a FLOOR")
    static void whoCannotGoDrawsAllTheSame() {
        for (String house : new String[] {"#m##,b.f#,#w##;9", "####,#.##,####;9"}) {
            MirrorClerks x = Scenes.peopled(house, 5);
            Edges.due("where he stays", x.days(60, 3, 1), 5);
            Edges.due("the SEED", x.days(60, 3, 2), seedBehind(3, 60));
            Edges.due("not ENTERED", x.days(60, 3, 0), 0);
        }
        Edges.taken(() -> Scenes.peopled(".###,####,####;9", 0), 0, "days", 60, 3, 1);
    }

    @Edges.Of("0: its rest by 2 to the 31; then that by 65536 (rounded down), its rest.")
    static void drawsOfGreatSeeds() {
        for (int back = 0; back < 40; back++) {
            int seed = Edges.MOST - back;
            Edges.taken(LedgerEdgesTest::told, seedBehind(seed, 1), "days", 1, seed, 2);
            Edges.taken(LedgerEdgesTest::told, BESIDE_5[draw(seed, 1)], "days", 1, seed, 1);
        }
    }

    @Edges.Of("0: DAYS by a SEED, as they would be")
    static void daysChangeNothing() {
        MirrorClerks x = Scenes.busy();
        long before = x.digest();
        x.days(60, 1, 0);
        Edges.due("digest()", x.digest(), before);
    }

    private static int seedBehind(int seed, int draws) {
        BigInteger one = BigInteger.valueOf(seed);
        for (int draw = 0; draw < draws; draw++) {
            one = one.multiply(BigInteger.valueOf(1103515245)).add(BigInteger.valueOf(12345));
            one = one.mod(BigInteger.TWO.pow(31));
        }
        return one.intValueExact();
    }

    private static int draw(int seed, int number) {
        return (int) Math.floor(seedBehind(seed, number) / 65536.0) % 4;
    }
}
